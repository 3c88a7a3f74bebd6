abbrev q_Mo_load (D : va_G) (cI cL : ClassId) (b0 b1 b2 b3 b4 b5 b6 b7 : Nat) (A : Nat → Prop) (ev : Int32) (wr : Nat → Int32) (wg : Nat → Int64) (ke : Nat → Int32) (ma : Nat → Int32) (li : Nat → Int64) (ps : Int32) (pn : Nat → Int32) (cy : Int32) (ca : Int32) (va : Int32) (cn : Nat → Int32) (pp : Int32) (px : Int32) (go : Int32) (ne : Int32) (gi : Int32) (gn : Int32) (F : (Nat → Int64) × (Nat → Int64) × Int32 × Int32 × (Nat → Int32) × Int32 × Int32 × Int32) : Array Value → State → Outcome → State → Prop := va_Qv (fun (_ : Unit) => True) (fun _ t => va_P D classes (W_Mo cI cL b0 b1 b2 b3 b4 b5 b6 b7 ev wr F.1 ke ma F.2.1 ps pn cy F.2.2.1 F.2.2.2.1 F.2.2.2.2.1 pp px F.2.2.2.2.2.1 ne F.2.2.2.2.2.2.1 F.2.2.2.2.2.2.2) t.heap) A
theorem f_Mo_load_e0 (wr : Nat → Int32) (wg : Nat → Int64) (li : Nat → Int64) (ca : Int32) (va : Int32) (cn : Nat → Int32) (px : Int32) (go : Int32) (gi : Int32) (gn : Int32) (f : Int32) (a : Int32) (t1 : Int32 × Int32) (e_t1 : f_Mo_illegal ca va px = t1) (h3 : ¬ (u_rem f (4 : Int32)) = 0) (h14 : ¬ (u_rem f (4 : Int32)) = (1 : Int32)) (h25 : f = (3 : Int32)) : f_Mo_load wr wg li ca va cn px go gi gn f a = (wg, li, t1.1, t1.2, cn, go, gi, gn) := by
  subst e_t1
  exact ((if_neg h3).trans ((if_neg h14).trans (if_pos h25)))
theorem f_Mo_load_e1 (wr : Nat → Int32) (wg : Nat → Int64) (li : Nat → Int64) (ca : Int32) (va : Int32) (cn : Nat → Int32) (px : Int32) (go : Int32) (gi : Int32) (gn : Int32) (f : Int32) (a : Int32) (t2 : Int32 × Int32 × Int32) (e_t2 : f_Mo_reaches ca va a (4 : Int32) = t2) (h3 : ¬ (u_rem f (4 : Int32)) = 0) (h14 : ¬ (u_rem f (4 : Int32)) = (1 : Int32)) (h25 : ¬ f = (3 : Int32)) (h30 : f ≤ (5 : Int32)) (h46 : t2.1 = 0) : f_Mo_load wr wg li ca va cn px go gi gn f a = (wg, li, t2.2.1, t2.2.2, cn, go, gi, gn) := by
  subst e_t2
  exact ((if_neg h3).trans ((if_neg h14).trans ((if_neg h25).trans ((if_pos h30).trans (if_pos h46)))))
theorem f_Mo_load_e2 (wr : Nat → Int32) (wg : Nat → Int64) (li : Nat → Int64) (ca : Int32) (va : Int32) (cn : Nat → Int32) (px : Int32) (go : Int32) (gi : Int32) (gn : Int32) (f : Int32) (a : Int32) (t2 : Int32 × Int32 × Int32) (t3 : Int32 × (Nat → Int64) × (Nat → Int64) × Int32 × Int32 × (Nat → Int32) × Int32) (e_t2 : f_Mo_reaches ca va a (4 : Int32) = t2) (e_t3 : f_Mo_fetch wr wg li t2.2.1 t2.2.2 cn go (1 : Int32) (a / (4 : Int32)) = t3) (h3 : ¬ (u_rem f (4 : Int32)) = 0) (h14 : ¬ (u_rem f (4 : Int32)) = (1 : Int32)) (h25 : ¬ f = (3 : Int32)) (h30 : f ≤ (5 : Int32)) (h46 : ¬ t2.1 = 0) (h57 : t3.1 = 0) : f_Mo_load wr wg li ca va cn px go gi gn f a = (t3.2.1, t3.2.2.1, t3.2.2.2.1, t3.2.2.2.2.1, t3.2.2.2.2.2.1, t3.2.2.2.2.2.2, gi, gn) := by
  subst e_t3
  subst e_t2
  exact ((if_neg h3).trans ((if_neg h14).trans ((if_neg h25).trans ((if_pos h30).trans ((if_neg h46).trans (if_pos h57))))))
theorem f_Mo_load_e3 (wr : Nat → Int32) (wg : Nat → Int64) (li : Nat → Int64) (ca : Int32) (va : Int32) (cn : Nat → Int32) (px : Int32) (go : Int32) (gi : Int32) (gn : Int32) (f : Int32) (a : Int32) (t2 : Int32 × Int32 × Int32) (t3 : Int32 × (Nat → Int64) × (Nat → Int64) × Int32 × Int32 × (Nat → Int32) × Int32) (t4 : Int32) (t5 : Int32 × Int32) (e_t2 : f_Mo_reaches ca va a (4 : Int32) = t2) (e_t3 : f_Mo_fetch wr wg li t2.2.1 t2.2.2 cn go (1 : Int32) (a / (4 : Int32)) = t3) (e_t4 : ((t3.2.2.2.2.2.2 >>> (((8 : Int32) * (u_rem a (4 : Int32))) &&& 31)) <<< (((32 : Int32) - ((8 : Int32) * (4 : Int32))) &&& 31)) = t4) (e_t5 : f_Mo_give gi gn (u_ush t4 ((32 : Int32) - ((8 : Int32) * (4 : Int32)))) = t5) (h3 : ¬ (u_rem f (4 : Int32)) = 0) (h14 : ¬ (u_rem f (4 : Int32)) = (1 : Int32)) (h25 : ¬ f = (3 : Int32)) (h30 : f ≤ (5 : Int32)) (h46 : ¬ t2.1 = 0) (h57 : ¬ t3.1 = 0) (h88 : (4 : Int32) ≤ f) : f_Mo_load wr wg li ca va cn px go gi gn f a = (t3.2.1, t3.2.2.1, t3.2.2.2.1, t3.2.2.2.2.1, t3.2.2.2.2.2.1, t3.2.2.2.2.2.2, t5.1, t5.2) := by
  subst e_t5
  subst e_t4
  subst e_t3
  subst e_t2
  exact ((if_neg h3).trans ((if_neg h14).trans ((if_neg h25).trans ((if_pos h30).trans ((if_neg h46).trans ((if_neg h57).trans (if_pos h88)))))))
theorem f_Mo_load_e4 (wr : Nat → Int32) (wg : Nat → Int64) (li : Nat → Int64) (ca : Int32) (va : Int32) (cn : Nat → Int32) (px : Int32) (go : Int32) (gi : Int32) (gn : Int32) (f : Int32) (a : Int32) (t2 : Int32 × Int32 × Int32) (t3 : Int32 × (Nat → Int64) × (Nat → Int64) × Int32 × Int32 × (Nat → Int32) × Int32) (t4 : Int32) (t6 : Int32 × Int32) (e_t2 : f_Mo_reaches ca va a (4 : Int32) = t2) (e_t3 : f_Mo_fetch wr wg li t2.2.1 t2.2.2 cn go (1 : Int32) (a / (4 : Int32)) = t3) (e_t4 : ((t3.2.2.2.2.2.2 >>> (((8 : Int32) * (u_rem a (4 : Int32))) &&& 31)) <<< (((32 : Int32) - ((8 : Int32) * (4 : Int32))) &&& 31)) = t4) (e_t6 : f_Mo_give gi gn (t4 >>> (((32 : Int32) - ((8 : Int32) * (4 : Int32))) &&& 31)) = t6) (h3 : ¬ (u_rem f (4 : Int32)) = 0) (h14 : ¬ (u_rem f (4 : Int32)) = (1 : Int32)) (h25 : ¬ f = (3 : Int32)) (h30 : f ≤ (5 : Int32)) (h46 : ¬ t2.1 = 0) (h57 : ¬ t3.1 = 0) (h88 : ¬ (4 : Int32) ≤ f) : f_Mo_load wr wg li ca va cn px go gi gn f a = (t3.2.1, t3.2.2.1, t3.2.2.2.1, t3.2.2.2.2.1, t3.2.2.2.2.2.1, t3.2.2.2.2.2.2, t6.1, t6.2) := by
  subst e_t6
  subst e_t4
  subst e_t3
  subst e_t2
  exact ((if_neg h3).trans ((if_neg h14).trans ((if_neg h25).trans ((if_pos h30).trans ((if_neg h46).trans ((if_neg h57).trans (if_neg h88)))))))
theorem f_Mo_load_e5 (wr : Nat → Int32) (wg : Nat → Int64) (li : Nat → Int64) (ca : Int32) (va : Int32) (cn : Nat → Int32) (px : Int32) (go : Int32) (gi : Int32) (gn : Int32) (f : Int32) (a : Int32) (t7 : Int32 × Int32) (e_t7 : f_Mo_illegal ca va px = t7) (h3 : ¬ (u_rem f (4 : Int32)) = 0) (h14 : ¬ (u_rem f (4 : Int32)) = (1 : Int32)) (h25 : ¬ f = (3 : Int32)) (h30 : ¬ f ≤ (5 : Int32)) : f_Mo_load wr wg li ca va cn px go gi gn f a = (wg, li, t7.1, t7.2, cn, go, gi, gn) := by
  subst e_t7
  exact ((if_neg h3).trans ((if_neg h14).trans ((if_neg h25).trans (if_neg h30))))
theorem f_Mo_load_e6 (wr : Nat → Int32) (wg : Nat → Int64) (li : Nat → Int64) (ca : Int32) (va : Int32) (cn : Nat → Int32) (px : Int32) (go : Int32) (gi : Int32) (gn : Int32) (f : Int32) (a : Int32) (t8 : Int32 × Int32) (e_t8 : f_Mo_illegal ca va px = t8) (h3 : ¬ (u_rem f (4 : Int32)) = 0) (h14 : (u_rem f (4 : Int32)) = (1 : Int32)) (h25 : f = (3 : Int32)) : f_Mo_load wr wg li ca va cn px go gi gn f a = (wg, li, t8.1, t8.2, cn, go, gi, gn) := by
  subst e_t8
  exact ((if_neg h3).trans ((if_pos h14).trans (if_pos h25)))
theorem f_Mo_load_e7 (wr : Nat → Int32) (wg : Nat → Int64) (li : Nat → Int64) (ca : Int32) (va : Int32) (cn : Nat → Int32) (px : Int32) (go : Int32) (gi : Int32) (gn : Int32) (f : Int32) (a : Int32) (t9 : Int32 × Int32 × Int32) (e_t9 : f_Mo_reaches ca va a (2 : Int32) = t9) (h3 : ¬ (u_rem f (4 : Int32)) = 0) (h14 : (u_rem f (4 : Int32)) = (1 : Int32)) (h25 : ¬ f = (3 : Int32)) (h30 : f ≤ (5 : Int32)) (h46 : t9.1 = 0) : f_Mo_load wr wg li ca va cn px go gi gn f a = (wg, li, t9.2.1, t9.2.2, cn, go, gi, gn) := by
  subst e_t9
  exact ((if_neg h3).trans ((if_pos h14).trans ((if_neg h25).trans ((if_pos h30).trans (if_pos h46)))))
theorem f_Mo_load_e8 (wr : Nat → Int32) (wg : Nat → Int64) (li : Nat → Int64) (ca : Int32) (va : Int32) (cn : Nat → Int32) (px : Int32) (go : Int32) (gi : Int32) (gn : Int32) (f : Int32) (a : Int32) (t9 : Int32 × Int32 × Int32) (t10 : Int32 × (Nat → Int64) × (Nat → Int64) × Int32 × Int32 × (Nat → Int32) × Int32) (e_t9 : f_Mo_reaches ca va a (2 : Int32) = t9) (e_t10 : f_Mo_fetch wr wg li t9.2.1 t9.2.2 cn go (1 : Int32) (a / (4 : Int32)) = t10) (h3 : ¬ (u_rem f (4 : Int32)) = 0) (h14 : (u_rem f (4 : Int32)) = (1 : Int32)) (h25 : ¬ f = (3 : Int32)) (h30 : f ≤ (5 : Int32)) (h46 : ¬ t9.1 = 0) (h57 : t10.1 = 0) : f_Mo_load wr wg li ca va cn px go gi gn f a = (t10.2.1, t10.2.2.1, t10.2.2.2.1, t10.2.2.2.2.1, t10.2.2.2.2.2.1, t10.2.2.2.2.2.2, gi, gn) := by
  subst e_t10
  subst e_t9
  exact ((if_neg h3).trans ((if_pos h14).trans ((if_neg h25).trans ((if_pos h30).trans ((if_neg h46).trans (if_pos h57))))))
theorem f_Mo_load_e9 (wr : Nat → Int32) (wg : Nat → Int64) (li : Nat → Int64) (ca : Int32) (va : Int32) (cn : Nat → Int32) (px : Int32) (go : Int32) (gi : Int32) (gn : Int32) (f : Int32) (a : Int32) (t9 : Int32 × Int32 × Int32) (t10 : Int32 × (Nat → Int64) × (Nat → Int64) × Int32 × Int32 × (Nat → Int32) × Int32) (t11 : Int32) (t12 : Int32 × Int32) (e_t9 : f_Mo_reaches ca va a (2 : Int32) = t9) (e_t10 : f_Mo_fetch wr wg li t9.2.1 t9.2.2 cn go (1 : Int32) (a / (4 : Int32)) = t10) (e_t11 : ((t10.2.2.2.2.2.2 >>> (((8 : Int32) * (u_rem a (4 : Int32))) &&& 31)) <<< (((32 : Int32) - ((8 : Int32) * (2 : Int32))) &&& 31)) = t11) (e_t12 : f_Mo_give gi gn (u_ush t11 ((32 : Int32) - ((8 : Int32) * (2 : Int32)))) = t12) (h3 : ¬ (u_rem f (4 : Int32)) = 0) (h14 : (u_rem f (4 : Int32)) = (1 : Int32)) (h25 : ¬ f = (3 : Int32)) (h30 : f ≤ (5 : Int32)) (h46 : ¬ t9.1 = 0) (h57 : ¬ t10.1 = 0) (h88 : (4 : Int32) ≤ f) : f_Mo_load wr wg li ca va cn px go gi gn f a = (t10.2.1, t10.2.2.1, t10.2.2.2.1, t10.2.2.2.2.1, t10.2.2.2.2.2.1, t10.2.2.2.2.2.2, t12.1, t12.2) := by
  subst e_t12
  subst e_t11
  subst e_t10
  subst e_t9
  exact ((if_neg h3).trans ((if_pos h14).trans ((if_neg h25).trans ((if_pos h30).trans ((if_neg h46).trans ((if_neg h57).trans (if_pos h88)))))))
theorem f_Mo_load_e10 (wr : Nat → Int32) (wg : Nat → Int64) (li : Nat → Int64) (ca : Int32) (va : Int32) (cn : Nat → Int32) (px : Int32) (go : Int32) (gi : Int32) (gn : Int32) (f : Int32) (a : Int32) (t9 : Int32 × Int32 × Int32) (t10 : Int32 × (Nat → Int64) × (Nat → Int64) × Int32 × Int32 × (Nat → Int32) × Int32) (t11 : Int32) (t13 : Int32 × Int32) (e_t9 : f_Mo_reaches ca va a (2 : Int32) = t9) (e_t10 : f_Mo_fetch wr wg li t9.2.1 t9.2.2 cn go (1 : Int32) (a / (4 : Int32)) = t10) (e_t11 : ((t10.2.2.2.2.2.2 >>> (((8 : Int32) * (u_rem a (4 : Int32))) &&& 31)) <<< (((32 : Int32) - ((8 : Int32) * (2 : Int32))) &&& 31)) = t11) (e_t13 : f_Mo_give gi gn (t11 >>> (((32 : Int32) - ((8 : Int32) * (2 : Int32))) &&& 31)) = t13) (h3 : ¬ (u_rem f (4 : Int32)) = 0) (h14 : (u_rem f (4 : Int32)) = (1 : Int32)) (h25 : ¬ f = (3 : Int32)) (h30 : f ≤ (5 : Int32)) (h46 : ¬ t9.1 = 0) (h57 : ¬ t10.1 = 0) (h88 : ¬ (4 : Int32) ≤ f) : f_Mo_load wr wg li ca va cn px go gi gn f a = (t10.2.1, t10.2.2.1, t10.2.2.2.1, t10.2.2.2.2.1, t10.2.2.2.2.2.1, t10.2.2.2.2.2.2, t13.1, t13.2) := by
  subst e_t13
  subst e_t11
  subst e_t10
  subst e_t9
  exact ((if_neg h3).trans ((if_pos h14).trans ((if_neg h25).trans ((if_pos h30).trans ((if_neg h46).trans ((if_neg h57).trans (if_neg h88)))))))
theorem f_Mo_load_e11 (wr : Nat → Int32) (wg : Nat → Int64) (li : Nat → Int64) (ca : Int32) (va : Int32) (cn : Nat → Int32) (px : Int32) (go : Int32) (gi : Int32) (gn : Int32) (f : Int32) (a : Int32) (t14 : Int32 × Int32) (e_t14 : f_Mo_illegal ca va px = t14) (h3 : ¬ (u_rem f (4 : Int32)) = 0) (h14 : (u_rem f (4 : Int32)) = (1 : Int32)) (h25 : ¬ f = (3 : Int32)) (h30 : ¬ f ≤ (5 : Int32)) : f_Mo_load wr wg li ca va cn px go gi gn f a = (wg, li, t14.1, t14.2, cn, go, gi, gn) := by
  subst e_t14
  exact ((if_neg h3).trans ((if_pos h14).trans ((if_neg h25).trans (if_neg h30))))
theorem f_Mo_load_e12 (wr : Nat → Int32) (wg : Nat → Int64) (li : Nat → Int64) (ca : Int32) (va : Int32) (cn : Nat → Int32) (px : Int32) (go : Int32) (gi : Int32) (gn : Int32) (f : Int32) (a : Int32) (t15 : Int32 × Int32) (e_t15 : f_Mo_illegal ca va px = t15) (h3 : (u_rem f (4 : Int32)) = 0) (h25 : f = (3 : Int32)) : f_Mo_load wr wg li ca va cn px go gi gn f a = (wg, li, t15.1, t15.2, cn, go, gi, gn) := by
  subst e_t15
  exact ((if_pos h3).trans (if_pos h25))
theorem f_Mo_load_e13 (wr : Nat → Int32) (wg : Nat → Int64) (li : Nat → Int64) (ca : Int32) (va : Int32) (cn : Nat → Int32) (px : Int32) (go : Int32) (gi : Int32) (gn : Int32) (f : Int32) (a : Int32) (t16 : Int32 × Int32 × Int32) (e_t16 : f_Mo_reaches ca va a (1 : Int32) = t16) (h3 : (u_rem f (4 : Int32)) = 0) (h25 : ¬ f = (3 : Int32)) (h30 : f ≤ (5 : Int32)) (h46 : t16.1 = 0) : f_Mo_load wr wg li ca va cn px go gi gn f a = (wg, li, t16.2.1, t16.2.2, cn, go, gi, gn) := by
  subst e_t16
  exact ((if_pos h3).trans ((if_neg h25).trans ((if_pos h30).trans (if_pos h46))))
theorem f_Mo_load_e14 (wr : Nat → Int32) (wg : Nat → Int64) (li : Nat → Int64) (ca : Int32) (va : Int32) (cn : Nat → Int32) (px : Int32) (go : Int32) (gi : Int32) (gn : Int32) (f : Int32) (a : Int32) (t16 : Int32 × Int32 × Int32) (t17 : Int32 × (Nat → Int64) × (Nat → Int64) × Int32 × Int32 × (Nat → Int32) × Int32) (e_t16 : f_Mo_reaches ca va a (1 : Int32) = t16) (e_t17 : f_Mo_fetch wr wg li t16.2.1 t16.2.2 cn go (1 : Int32) (a / (4 : Int32)) = t17) (h3 : (u_rem f (4 : Int32)) = 0) (h25 : ¬ f = (3 : Int32)) (h30 : f ≤ (5 : Int32)) (h46 : ¬ t16.1 = 0) (h57 : t17.1 = 0) : f_Mo_load wr wg li ca va cn px go gi gn f a = (t17.2.1, t17.2.2.1, t17.2.2.2.1, t17.2.2.2.2.1, t17.2.2.2.2.2.1, t17.2.2.2.2.2.2, gi, gn) := by
  subst e_t17
  subst e_t16
  exact ((if_pos h3).trans ((if_neg h25).trans ((if_pos h30).trans ((if_neg h46).trans (if_pos h57)))))
theorem f_Mo_load_e15 (wr : Nat → Int32) (wg : Nat → Int64) (li : Nat → Int64) (ca : Int32) (va : Int32) (cn : Nat → Int32) (px : Int32) (go : Int32) (gi : Int32) (gn : Int32) (f : Int32) (a : Int32) (t16 : Int32 × Int32 × Int32) (t17 : Int32 × (Nat → Int64) × (Nat → Int64) × Int32 × Int32 × (Nat → Int32) × Int32) (t18 : Int32) (t19 : Int32 × Int32) (e_t16 : f_Mo_reaches ca va a (1 : Int32) = t16) (e_t17 : f_Mo_fetch wr wg li t16.2.1 t16.2.2 cn go (1 : Int32) (a / (4 : Int32)) = t17) (e_t18 : ((t17.2.2.2.2.2.2 >>> (((8 : Int32) * (u_rem a (4 : Int32))) &&& 31)) <<< (((32 : Int32) - ((8 : Int32) * (1 : Int32))) &&& 31)) = t18) (e_t19 : f_Mo_give gi gn (u_ush t18 ((32 : Int32) - ((8 : Int32) * (1 : Int32)))) = t19) (h3 : (u_rem f (4 : Int32)) = 0) (h25 : ¬ f = (3 : Int32)) (h30 : f ≤ (5 : Int32)) (h46 : ¬ t16.1 = 0) (h57 : ¬ t17.1 = 0) (h88 : (4 : Int32) ≤ f) : f_Mo_load wr wg li ca va cn px go gi gn f a = (t17.2.1, t17.2.2.1, t17.2.2.2.1, t17.2.2.2.2.1, t17.2.2.2.2.2.1, t17.2.2.2.2.2.2, t19.1, t19.2) := by
  subst e_t19
  subst e_t18
  subst e_t17
  subst e_t16
  exact ((if_pos h3).trans ((if_neg h25).trans ((if_pos h30).trans ((if_neg h46).trans ((if_neg h57).trans (if_pos h88))))))
theorem f_Mo_load_e16 (wr : Nat → Int32) (wg : Nat → Int64) (li : Nat → Int64) (ca : Int32) (va : Int32) (cn : Nat → Int32) (px : Int32) (go : Int32) (gi : Int32) (gn : Int32) (f : Int32) (a : Int32) (t16 : Int32 × Int32 × Int32) (t17 : Int32 × (Nat → Int64) × (Nat → Int64) × Int32 × Int32 × (Nat → Int32) × Int32) (t18 : Int32) (t20 : Int32 × Int32) (e_t16 : f_Mo_reaches ca va a (1 : Int32) = t16) (e_t17 : f_Mo_fetch wr wg li t16.2.1 t16.2.2 cn go (1 : Int32) (a / (4 : Int32)) = t17) (e_t18 : ((t17.2.2.2.2.2.2 >>> (((8 : Int32) * (u_rem a (4 : Int32))) &&& 31)) <<< (((32 : Int32) - ((8 : Int32) * (1 : Int32))) &&& 31)) = t18) (e_t20 : f_Mo_give gi gn (t18 >>> (((32 : Int32) - ((8 : Int32) * (1 : Int32))) &&& 31)) = t20) (h3 : (u_rem f (4 : Int32)) = 0) (h25 : ¬ f = (3 : Int32)) (h30 : f ≤ (5 : Int32)) (h46 : ¬ t16.1 = 0) (h57 : ¬ t17.1 = 0) (h88 : ¬ (4 : Int32) ≤ f) : f_Mo_load wr wg li ca va cn px go gi gn f a = (t17.2.1, t17.2.2.1, t17.2.2.2.1, t17.2.2.2.2.1, t17.2.2.2.2.2.1, t17.2.2.2.2.2.2, t20.1, t20.2) := by
  subst e_t20
  subst e_t18
  subst e_t17
  subst e_t16
  exact ((if_pos h3).trans ((if_neg h25).trans ((if_pos h30).trans ((if_neg h46).trans ((if_neg h57).trans (if_neg h88))))))
theorem f_Mo_load_e17 (wr : Nat → Int32) (wg : Nat → Int64) (li : Nat → Int64) (ca : Int32) (va : Int32) (cn : Nat → Int32) (px : Int32) (go : Int32) (gi : Int32) (gn : Int32) (f : Int32) (a : Int32) (t21 : Int32 × Int32) (e_t21 : f_Mo_illegal ca va px = t21) (h3 : (u_rem f (4 : Int32)) = 0) (h25 : ¬ f = (3 : Int32)) (h30 : ¬ f ≤ (5 : Int32)) : f_Mo_load wr wg li ca va cn px go gi gn f a = (wg, li, t21.1, t21.2, cn, go, gi, gn) := by
  subst e_t21
  exact ((if_pos h3).trans ((if_neg h25).trans (if_neg h30)))
set_option maxHeartbeats 4000000 in
set_option maxRecDepth 100000 in
theorem c_Mo_load (l : Launch) (D : va_G) (cI cL : ClassId) (b0 b1 b2 b3 b4 b5 b6 b7 : Nat) (sz : Nat) (ev : Int32) (wr : Nat → Int32) (wg : Nat → Int64) (ke : Nat → Int32) (ma : Nat → Int32) (li : Nat → Int64) (ps : Int32) (pn : Nat → Int32) (cy : Int32) (ca : Int32) (va : Int32) (cn : Nat → Int32) (pp : Int32) (px : Int32) (go : Int32) (ne : Int32) (gi : Int32) (gn : Int32) (f : Int32) (a : Int32)  : Met l y_Mo_load w_Mo_load ({ frames := 4, cells := 0, slots := 0, locals := 90 }) (va_Pc [.ref b0, .int f, .int a] (PW D cI cL (W_Mo cI cL b0 b1 b2 b3 b4 b5 b6 b7 ev wr wg ke ma li ps pn cy ca va cn pp px go ne gi gn) sz)) (q_Mo_load D cI cL b0 b1 b2 b3 b4 b5 b6 b7 (va_A (W_Mo cI cL b0 b1 b2 b3 b4 b5 b6 b7 ev wr wg ke ma li ps pn cy ca va cn pp px go ne gi gn) sz) ev wr wg ke ma li ps pn cy ca va cn pp px go ne gi gn (f_Mo_load wr wg li ca va cn px go gi gn f a)) 0 0 (va_A (W_Mo cI cL b0 b1 b2 b3 b4 b5 b6 b7 ev wr wg ke ma li ps pn cy ca va cn pp px go ne gi gn) sz) := by
  refine mk_met (Qf := fun A => q_Mo_load D cI cL b0 b1 b2 b3 b4 b5 b6 b7 A ev wr wg ke ma li ps pn cy ca va cn pp px go ne gi gn (f_Mo_load wr wg li ca va cn px go gi gn f a)) (by decide) (Nat.le_of_ble_eq_true rfl) ?_
  intro p e s m below meth c A ls hx hb hr hlocks hml hown hg hK hN hT hA hP hD hS hnm hl
  refine lv_iload_n hx hb d_Mo_load_0 rfl (lv_at hl 1 rfl) ?_
  refine lv_iconst (v := 4) hx hb d_Mo_load_1 (by decide) ?_
  refine lv_irem hx hb d_Mo_load_2 (by decide) ?_
  refine lv_if_ne (tgt := 10) hx hb d_Mo_load_3 (by decide) (fun h3 => ?_) (fun h3 => ?_)
  · refine lv_iload_n hx hb d_Mo_load_10 rfl (lv_at hl 1 rfl) ?_
    refine lv_iconst (v := 4) hx hb d_Mo_load_11 (by decide) ?_
    refine lv_irem hx hb d_Mo_load_12 (by decide) ?_
    refine lv_iconst (v := 1) hx hb d_Mo_load_13 (by decide) ?_
    refine lv_icmp_ne (tgt := 21) hx hb d_Mo_load_14 (by decide) (fun h14 => ?_) (fun h14 => ?_)
    · refine lv_iconst (v := 4) hx hb d_Mo_load_21 (by decide) ?_
      refine lv_istore_n (lv' := [(3, .int _), (0, .ref _), (1, .int _), (2, .int _)]) hx hb d_Mo_load_22 rfl hl (by decide) rfl (fun ls hl => ?_)
      refine lv_iload_n hx hb d_Mo_load_23 rfl (lv_at hl 2 rfl) ?_
      refine lv_iconst (v := 3) hx hb d_Mo_load_24 (by decide) ?_
      refine lv_icmp_eq (tgt := 33) hx hb d_Mo_load_25 (by decide) (fun h25 => ?_) (fun h25 => ?_)
      · refine lv_aload_n hx hb d_Mo_load_33 rfl (lv_at hl 1 rfl) ?_
        refine cj_v (wc := (W_Mo cI cL b0 b1 b2 b3 b4 b5 b6 b7 ev wr wg ke ma li ps pn cy ca va cn pp px go ne gi gn)) (w1 := (W_Mo cI cL b0 b1 b2 b3 b4 b5 b6 b7 ev wr wg ke ma li ps pn cy ((f_Mo_illegal ca va px).1) ((f_Mo_illegal ca va px).2) cn pp px go ne gi gn)) hP hD hS hA [0, 1, 2, 3, 4, 5, 6, 7] rfl [b0, b1, b2, b3, b4, b5, b6, b7] rfl rfl (va_runV (rest := []) ⟨hx, hb, hml, hown, hg⟩ (c_Mo_illegal l D cI cL b0 b1 b2 b3 b4 b5 b6 b7 _ ev wr wg ke ma li ps pn cy ca va cn pp px go ne gi gn) ⟨callB_of 0 hg (gw_good m_661) rfl rfl rfl (hg _ m_71) (hg _ m_658) hd_Mo_illegal ⟨Nat.le_of_ble_eq_true rfl, Nat.le_of_ble_eq_true rfl⟩, hg _ m_660, hg _ m_51⟩ (pw_V hK hN hT hA hP hD hS [0, 1, 2, 3, 4, 5, 6, 7] rfl (by decide) (q0 := 0) (ci := 5) rfl rfl) rfl rfl hl.1 rfl (lv_room (Nat.le_of_ble_eq_true rfl)) d_Mo_load_34 ⟨Nat.le_of_ble_eq_true rfl, Nat.le_of_ble_eq_true rfl⟩) (fun H locs hP hD hS => ?_)
        have hP : va_P D classes (W_Mo cI cL b0 b1 b2 b3 b4 b5 b6 b7 ev wr wg ke ma li ps pn cy ((f_Mo_illegal ca va px).1) ((f_Mo_illegal ca va px).2) cn pp px go ne gi gn) H := hP
        have hD : va_D A (W_Mo cI cL b0 b1 b2 b3 b4 b5 b6 b7 ev wr wg ke ma li ps pn cy ((f_Mo_illegal ca va px).1) ((f_Mo_illegal ca va px).2) cn pp px go ne gi gn) := hD
        generalize e_t1 : f_Mo_illegal ca va px = t1 at hP hD ⊢
        refine lv_goto (tgt := 107) hx hb d_Mo_load_37 (by decide) ?_
        rw [f_Mo_load_e0 wr wg li ca va cn px go gi gn f a t1 e_t1 h3 h14 h25]
        exact W.vret hx hb hr (fun t ht hW => ⟨⟨(), rfl, trivial, by show va_P D classes _ t.heap; rw [ht]; exact hP⟩, hS.F ht⟩) hS.2.2 d_Mo_load_107 hlocks
      · refine lv_iload_n hx hb d_Mo_load_28 rfl (lv_at hl 2 rfl) ?_
        refine lv_iconst (v := 5) hx hb d_Mo_load_29 (by decide) ?_
        refine lv_icmp_le (tgt := 40) hx hb d_Mo_load_30 (by decide) (fun h30 => ?_) (fun h30 => ?_)
        · refine lv_aload_n hx hb d_Mo_load_40 rfl (lv_at hl 1 rfl) ?_
          refine lv_iload_n hx hb d_Mo_load_41 rfl (lv_at hl 3 rfl) ?_
          refine lv_iload_n hx hb d_Mo_load_42 rfl (lv_at hl 0 rfl) ?_
          refine cj_i (wc := (W_Mo cI cL b0 b1 b2 b3 b4 b5 b6 b7 ev wr wg ke ma li ps pn cy ca va cn pp px go ne gi gn)) (w1 := (W_Mo cI cL b0 b1 b2 b3 b4 b5 b6 b7 ev wr wg ke ma li ps pn cy ((f_Mo_reaches ca va a (4 : Int32)).2.1) ((f_Mo_reaches ca va a (4 : Int32)).2.2) cn pp px go ne gi gn)) hP hD hS hA [0, 1, 2, 3, 4, 5, 6, 7] rfl [b0, b1, b2, b3, b4, b5, b6, b7] rfl rfl (va_runV (rest := []) ⟨hx, hb, hml, hown, hg⟩ (c_Mo_reaches l D cI cL b0 b1 b2 b3 b4 b5 b6 b7 _ ev wr wg ke ma li ps pn cy ca va cn pp px go ne gi gn a (4 : Int32) (by decide)) ⟨callB_of 2 hg (gw_good m_680) rfl rfl rfl (hg _ m_71) (hg _ m_677) hd_Mo_reaches ⟨Nat.le_of_ble_eq_true rfl, Nat.le_of_ble_eq_true rfl⟩, hg _ m_679, hg _ m_55⟩ (pw_V hK hN hT hA hP hD hS [0, 1, 2, 3, 4, 5, 6, 7] rfl (by decide) (q0 := 0) (ci := 5) rfl rfl) rfl rfl hl.1 rfl (lv_room (Nat.le_of_ble_eq_true rfl)) d_Mo_load_43 ⟨Nat.le_of_ble_eq_true rfl, Nat.le_of_ble_eq_true rfl⟩) (fun H locs hP hD hS => ?_)
          have hP : va_P D classes (W_Mo cI cL b0 b1 b2 b3 b4 b5 b6 b7 ev wr wg ke ma li ps pn cy ((f_Mo_reaches ca va a (4 : Int32)).2.1) ((f_Mo_reaches ca va a (4 : Int32)).2.2) cn pp px go ne gi gn) H := hP
          have hD : va_D A (W_Mo cI cL b0 b1 b2 b3 b4 b5 b6 b7 ev wr wg ke ma li ps pn cy ((f_Mo_reaches ca va a (4 : Int32)).2.1) ((f_Mo_reaches ca va a (4 : Int32)).2.2) cn pp px go ne gi gn) := hD
          generalize e_t2 : f_Mo_reaches ca va a (4 : Int32) = t2 at hP hD ⊢
          refine lv_if_eq (tgt := 107) hx hb d_Mo_load_46 (by decide) (fun h46 => ?_) (fun h46 => ?_)
          · rw [f_Mo_load_e1 wr wg li ca va cn px go gi gn f a t2 e_t2 h3 h14 h25 h30 h46]
            exact W.vret hx hb hr (fun t ht hW => ⟨⟨(), rfl, trivial, by show va_P D classes _ t.heap; rw [ht]; exact hP⟩, hS.F ht⟩) hS.2.2 d_Mo_load_107 hlocks
          · refine lv_aload_n hx hb d_Mo_load_49 rfl (lv_at hl 1 rfl) ?_
            refine lv_iconst (v := 1) hx hb d_Mo_load_50 (by decide) ?_
            refine lv_iload_n hx hb d_Mo_load_51 rfl (lv_at hl 3 rfl) ?_
            refine lv_iconst (v := 4) hx hb d_Mo_load_52 (by decide) ?_
            refine lv_idiv hx hb d_Mo_load_53 (by decide) ?_
            refine cj_i (wc := (W_Mo cI cL b0 b1 b2 b3 b4 b5 b6 b7 ev wr wg ke ma li ps pn cy t2.2.1 t2.2.2 cn pp px go ne gi gn)) (w1 := (W_Mo cI cL b0 b1 b2 b3 b4 b5 b6 b7 ev wr ((f_Mo_fetch wr wg li t2.2.1 t2.2.2 cn go (1 : Int32) (a / (4 : Int32))).2.1) ke ma ((f_Mo_fetch wr wg li t2.2.1 t2.2.2 cn go (1 : Int32) (a / (4 : Int32))).2.2.1) ps pn cy ((f_Mo_fetch wr wg li t2.2.1 t2.2.2 cn go (1 : Int32) (a / (4 : Int32))).2.2.2.1) ((f_Mo_fetch wr wg li t2.2.1 t2.2.2 cn go (1 : Int32) (a / (4 : Int32))).2.2.2.2.1) ((f_Mo_fetch wr wg li t2.2.1 t2.2.2 cn go (1 : Int32) (a / (4 : Int32))).2.2.2.2.2.1) pp px ((f_Mo_fetch wr wg li t2.2.1 t2.2.2 cn go (1 : Int32) (a / (4 : Int32))).2.2.2.2.2.2) ne gi gn)) hP hD hS hA [0, 1, 2, 3, 4, 5, 6, 7] rfl [b0, b1, b2, b3, b4, b5, b6, b7] rfl rfl (va_runV (rest := []) ⟨hx, hb, hml, hown, hg⟩ (c_Mo_fetch l D cI cL b0 b1 b2 b3 b4 b5 b6 b7 _ ev wr wg ke ma li ps pn cy t2.2.1 t2.2.2 cn pp px go ne gi gn (1 : Int32) (a / (4 : Int32)) (vp_ofb (by decide)) (in_reach h46)) ⟨callB_of 2 hg (gw_good m_599) rfl rfl rfl (hg _ m_71) (hg _ m_596) hd_Mo_fetch ⟨Nat.le_of_ble_eq_true rfl, Nat.le_of_ble_eq_true rfl⟩, hg _ m_598, hg _ m_41⟩ (pw_V hK hN hT hA hP hD hS [0, 1, 2, 3, 4, 5, 6, 7] rfl (by decide) (q0 := 0) (ci := 5) rfl rfl) rfl rfl hl.1 rfl (lv_room (Nat.le_of_ble_eq_true rfl)) d_Mo_load_54 ⟨Nat.le_of_ble_eq_true rfl, Nat.le_of_ble_eq_true rfl⟩) (fun H locs hP hD hS => ?_)
            have hP : va_P D classes (W_Mo cI cL b0 b1 b2 b3 b4 b5 b6 b7 ev wr ((f_Mo_fetch wr wg li t2.2.1 t2.2.2 cn go (1 : Int32) (a / (4 : Int32))).2.1) ke ma ((f_Mo_fetch wr wg li t2.2.1 t2.2.2 cn go (1 : Int32) (a / (4 : Int32))).2.2.1) ps pn cy ((f_Mo_fetch wr wg li t2.2.1 t2.2.2 cn go (1 : Int32) (a / (4 : Int32))).2.2.2.1) ((f_Mo_fetch wr wg li t2.2.1 t2.2.2 cn go (1 : Int32) (a / (4 : Int32))).2.2.2.2.1) ((f_Mo_fetch wr wg li t2.2.1 t2.2.2 cn go (1 : Int32) (a / (4 : Int32))).2.2.2.2.2.1) pp px ((f_Mo_fetch wr wg li t2.2.1 t2.2.2 cn go (1 : Int32) (a / (4 : Int32))).2.2.2.2.2.2) ne gi gn) H := hP
            have hD : va_D A (W_Mo cI cL b0 b1 b2 b3 b4 b5 b6 b7 ev wr ((f_Mo_fetch wr wg li t2.2.1 t2.2.2 cn go (1 : Int32) (a / (4 : Int32))).2.1) ke ma ((f_Mo_fetch wr wg li t2.2.1 t2.2.2 cn go (1 : Int32) (a / (4 : Int32))).2.2.1) ps pn cy ((f_Mo_fetch wr wg li t2.2.1 t2.2.2 cn go (1 : Int32) (a / (4 : Int32))).2.2.2.1) ((f_Mo_fetch wr wg li t2.2.1 t2.2.2 cn go (1 : Int32) (a / (4 : Int32))).2.2.2.2.1) ((f_Mo_fetch wr wg li t2.2.1 t2.2.2 cn go (1 : Int32) (a / (4 : Int32))).2.2.2.2.2.1) pp px ((f_Mo_fetch wr wg li t2.2.1 t2.2.2 cn go (1 : Int32) (a / (4 : Int32))).2.2.2.2.2.2) ne gi gn) := hD
            generalize e_t3 : f_Mo_fetch wr wg li t2.2.1 t2.2.2 cn go (1 : Int32) (a / (4 : Int32)) = t3 at hP hD ⊢
            refine lv_if_eq (tgt := 107) hx hb d_Mo_load_57 (by decide) (fun h57 => ?_) (fun h57 => ?_)
            · rw [f_Mo_load_e2 wr wg li ca va cn px go gi gn f a t2 t3 e_t2 e_t3 h3 h14 h25 h30 h46 h57]
              exact W.vret hx hb hr (fun t ht hW => ⟨⟨(), rfl, trivial, by show va_P D classes _ t.heap; rw [ht]; exact hP⟩, hS.F ht⟩) hS.2.2 d_Mo_load_107 hlocks
            · refine lv_bipush (v := 32) hx hb d_Mo_load_60 (by decide) ?_
              refine lv_bipush (v := 8) hx hb d_Mo_load_62 (by decide) ?_
              refine lv_iload_n hx hb d_Mo_load_64 rfl (lv_at hl 0 rfl) ?_
              refine lv_imul hx hb d_Mo_load_65 ?_
              refine lv_isub hx hb d_Mo_load_66 ?_
              refine lv_istore (lv' := [(4, .int _), (3, .int _), (0, .ref _), (1, .int _), (2, .int _)]) hx hb d_Mo_load_67 hl (by decide) rfl (fun ls hl => ?_)
              refine lv_aload_n hx hb d_Mo_load_69 rfl (lv_at hl 2 rfl) ?_
              refine va_get (ci := 5) (C := R_Mo) (T := F_Mo) (N := 18) hx hb hg in_Mo hown hK hP 0 rfl rfl 14 (by decide) (hg _ m_517) (fun _ h => h) rfl d_Mo_load_70 ?_
              refine lv_bipush (v := 8) hx hb d_Mo_load_73 (by decide) ?_
              refine lv_iload_n hx hb d_Mo_load_75 rfl (lv_at hl 4 rfl) ?_
              refine lv_iconst (v := 4) hx hb d_Mo_load_76 (by decide) ?_
              refine lv_irem hx hb d_Mo_load_77 (by decide) ?_
              refine lv_imul hx hb d_Mo_load_78 ?_
              refine lv_ishr hx hb d_Mo_load_79 ?_
              refine lv_iload hx hb d_Mo_load_80 (lv_at hl 0 rfl) ?_
              refine lv_ishl hx hb d_Mo_load_82 ?_
              refine lv_topi (fun t4 e_t4 => ?_)
              have e_t4 := e_t4.symm
              refine lv_istore (lv' := [(5, .int _), (4, .int _), (3, .int _), (0, .ref _), (1, .int _), (2, .int _)]) hx hb d_Mo_load_83 hl (by decide) rfl (fun ls hl => ?_)
              refine lv_aload_n hx hb d_Mo_load_85 rfl (lv_at hl 3 rfl) ?_
              refine lv_iload_n hx hb d_Mo_load_86 rfl (lv_at hl 4 rfl) ?_
              refine lv_iconst (v := 4) hx hb d_Mo_load_87 (by decide) ?_
              refine lv_icmp_ge (tgt := 99) hx hb d_Mo_load_88 (by decide) (fun h88 => ?_) (fun h88 => ?_)
              · refine lv_iload hx hb d_Mo_load_99 (lv_at hl 0 rfl) ?_
                refine lv_iload hx hb d_Mo_load_101 (lv_at hl 1 rfl) ?_
                refine lv_iushr (v := u_ush _ _) hx hb d_Mo_load_103 rfl ?_
                refine cj_v (wc := (W_Mo cI cL b0 b1 b2 b3 b4 b5 b6 b7 ev wr t3.2.1 ke ma t3.2.2.1 ps pn cy t3.2.2.2.1 t3.2.2.2.2.1 t3.2.2.2.2.2.1 pp px t3.2.2.2.2.2.2 ne gi gn)) (w1 := (W_Mo cI cL b0 b1 b2 b3 b4 b5 b6 b7 ev wr t3.2.1 ke ma t3.2.2.1 ps pn cy t3.2.2.2.1 t3.2.2.2.2.1 t3.2.2.2.2.2.1 pp px t3.2.2.2.2.2.2 ne ((f_Mo_give gi gn (u_ush t4 ((32 : Int32) - ((8 : Int32) * (4 : Int32))))).1) ((f_Mo_give gi gn (u_ush t4 ((32 : Int32) - ((8 : Int32) * (4 : Int32))))).2))) hP hD hS hA [0, 1, 2, 3, 4, 5, 6, 7] rfl [b0, b1, b2, b3, b4, b5, b6, b7] rfl rfl (va_runV (rest := []) ⟨hx, hb, hml, hown, hg⟩ (c_Mo_give l D cI cL b0 b1 b2 b3 b4 b5 b6 b7 _ ev wr t3.2.1 ke ma t3.2.2.1 ps pn cy t3.2.2.2.1 t3.2.2.2.2.1 t3.2.2.2.2.2.1 pp px t3.2.2.2.2.2.2 ne gi gn (u_ush t4 ((32 : Int32) - ((8 : Int32) * (4 : Int32))))) ⟨callB_of 1 hg (gw_good m_645) rfl rfl rfl (hg _ m_71) (hg _ m_642) hd_Mo_give ⟨Nat.le_of_ble_eq_true rfl, Nat.le_of_ble_eq_true rfl⟩, hg _ m_644, hg _ m_47⟩ (pw_V hK hN hT hA hP hD hS [0, 1, 2, 3, 4, 5, 6, 7] rfl (by decide) (q0 := 0) (ci := 5) rfl rfl) rfl rfl hl.1 rfl (lv_room (Nat.le_of_ble_eq_true rfl)) d_Mo_load_104 ⟨Nat.le_of_ble_eq_true rfl, Nat.le_of_ble_eq_true rfl⟩) (fun H locs hP hD hS => ?_)
                have hP : va_P D classes (W_Mo cI cL b0 b1 b2 b3 b4 b5 b6 b7 ev wr t3.2.1 ke ma t3.2.2.1 ps pn cy t3.2.2.2.1 t3.2.2.2.2.1 t3.2.2.2.2.2.1 pp px t3.2.2.2.2.2.2 ne ((f_Mo_give gi gn (u_ush t4 ((32 : Int32) - ((8 : Int32) * (4 : Int32))))).1) ((f_Mo_give gi gn (u_ush t4 ((32 : Int32) - ((8 : Int32) * (4 : Int32))))).2)) H := hP
                have hD : va_D A (W_Mo cI cL b0 b1 b2 b3 b4 b5 b6 b7 ev wr t3.2.1 ke ma t3.2.2.1 ps pn cy t3.2.2.2.1 t3.2.2.2.2.1 t3.2.2.2.2.2.1 pp px t3.2.2.2.2.2.2 ne ((f_Mo_give gi gn (u_ush t4 ((32 : Int32) - ((8 : Int32) * (4 : Int32))))).1) ((f_Mo_give gi gn (u_ush t4 ((32 : Int32) - ((8 : Int32) * (4 : Int32))))).2)) := hD
                generalize e_t5 : f_Mo_give gi gn (u_ush t4 ((32 : Int32) - ((8 : Int32) * (4 : Int32)))) = t5 at hP hD ⊢
                rw [f_Mo_load_e3 wr wg li ca va cn px go gi gn f a t2 t3 t4 t5 e_t2 e_t3 e_t4 e_t5 h3 h14 h25 h30 h46 h57 h88]
                exact W.vret hx hb hr (fun t ht hW => ⟨⟨(), rfl, trivial, by show va_P D classes _ t.heap; rw [ht]; exact hP⟩, hS.F ht⟩) hS.2.2 d_Mo_load_107 hlocks
              · refine lv_iload hx hb d_Mo_load_91 (lv_at hl 0 rfl) ?_
                refine lv_iload hx hb d_Mo_load_93 (lv_at hl 1 rfl) ?_
                refine lv_ishr hx hb d_Mo_load_95 ?_
                refine lv_goto (tgt := 104) hx hb d_Mo_load_96 (by decide) ?_
                refine cj_v (wc := (W_Mo cI cL b0 b1 b2 b3 b4 b5 b6 b7 ev wr t3.2.1 ke ma t3.2.2.1 ps pn cy t3.2.2.2.1 t3.2.2.2.2.1 t3.2.2.2.2.2.1 pp px t3.2.2.2.2.2.2 ne gi gn)) (w1 := (W_Mo cI cL b0 b1 b2 b3 b4 b5 b6 b7 ev wr t3.2.1 ke ma t3.2.2.1 ps pn cy t3.2.2.2.1 t3.2.2.2.2.1 t3.2.2.2.2.2.1 pp px t3.2.2.2.2.2.2 ne ((f_Mo_give gi gn (t4 >>> (((32 : Int32) - ((8 : Int32) * (4 : Int32))) &&& 31))).1) ((f_Mo_give gi gn (t4 >>> (((32 : Int32) - ((8 : Int32) * (4 : Int32))) &&& 31))).2))) hP hD hS hA [0, 1, 2, 3, 4, 5, 6, 7] rfl [b0, b1, b2, b3, b4, b5, b6, b7] rfl rfl (va_runV (rest := []) ⟨hx, hb, hml, hown, hg⟩ (c_Mo_give l D cI cL b0 b1 b2 b3 b4 b5 b6 b7 _ ev wr t3.2.1 ke ma t3.2.2.1 ps pn cy t3.2.2.2.1 t3.2.2.2.2.1 t3.2.2.2.2.2.1 pp px t3.2.2.2.2.2.2 ne gi gn (t4 >>> (((32 : Int32) - ((8 : Int32) * (4 : Int32))) &&& 31))) ⟨callB_of 1 hg (gw_good m_645) rfl rfl rfl (hg _ m_71) (hg _ m_642) hd_Mo_give ⟨Nat.le_of_ble_eq_true rfl, Nat.le_of_ble_eq_true rfl⟩, hg _ m_644, hg _ m_47⟩ (pw_V hK hN hT hA hP hD hS [0, 1, 2, 3, 4, 5, 6, 7] rfl (by decide) (q0 := 0) (ci := 5) rfl rfl) rfl rfl hl.1 rfl (lv_room (Nat.le_of_ble_eq_true rfl)) d_Mo_load_104 ⟨Nat.le_of_ble_eq_true rfl, Nat.le_of_ble_eq_true rfl⟩) (fun H locs hP hD hS => ?_)
                have hP : va_P D classes (W_Mo cI cL b0 b1 b2 b3 b4 b5 b6 b7 ev wr t3.2.1 ke ma t3.2.2.1 ps pn cy t3.2.2.2.1 t3.2.2.2.2.1 t3.2.2.2.2.2.1 pp px t3.2.2.2.2.2.2 ne ((f_Mo_give gi gn (t4 >>> (((32 : Int32) - ((8 : Int32) * (4 : Int32))) &&& 31))).1) ((f_Mo_give gi gn (t4 >>> (((32 : Int32) - ((8 : Int32) * (4 : Int32))) &&& 31))).2)) H := hP
                have hD : va_D A (W_Mo cI cL b0 b1 b2 b3 b4 b5 b6 b7 ev wr t3.2.1 ke ma t3.2.2.1 ps pn cy t3.2.2.2.1 t3.2.2.2.2.1 t3.2.2.2.2.2.1 pp px t3.2.2.2.2.2.2 ne ((f_Mo_give gi gn (t4 >>> (((32 : Int32) - ((8 : Int32) * (4 : Int32))) &&& 31))).1) ((f_Mo_give gi gn (t4 >>> (((32 : Int32) - ((8 : Int32) * (4 : Int32))) &&& 31))).2)) := hD
                generalize e_t6 : f_Mo_give gi gn (t4 >>> (((32 : Int32) - ((8 : Int32) * (4 : Int32))) &&& 31)) = t6 at hP hD ⊢
                rw [f_Mo_load_e4 wr wg li ca va cn px go gi gn f a t2 t3 t4 t6 e_t2 e_t3 e_t4 e_t6 h3 h14 h25 h30 h46 h57 h88]
                exact W.vret hx hb hr (fun t ht hW => ⟨⟨(), rfl, trivial, by show va_P D classes _ t.heap; rw [ht]; exact hP⟩, hS.F ht⟩) hS.2.2 d_Mo_load_107 hlocks
        · refine lv_aload_n hx hb d_Mo_load_33 rfl (lv_at hl 1 rfl) ?_
          refine cj_v (wc := (W_Mo cI cL b0 b1 b2 b3 b4 b5 b6 b7 ev wr wg ke ma li ps pn cy ca va cn pp px go ne gi gn)) (w1 := (W_Mo cI cL b0 b1 b2 b3 b4 b5 b6 b7 ev wr wg ke ma li ps pn cy ((f_Mo_illegal ca va px).1) ((f_Mo_illegal ca va px).2) cn pp px go ne gi gn)) hP hD hS hA [0, 1, 2, 3, 4, 5, 6, 7] rfl [b0, b1, b2, b3, b4, b5, b6, b7] rfl rfl (va_runV (rest := []) ⟨hx, hb, hml, hown, hg⟩ (c_Mo_illegal l D cI cL b0 b1 b2 b3 b4 b5 b6 b7 _ ev wr wg ke ma li ps pn cy ca va cn pp px go ne gi gn) ⟨callB_of 0 hg (gw_good m_661) rfl rfl rfl (hg _ m_71) (hg _ m_658) hd_Mo_illegal ⟨Nat.le_of_ble_eq_true rfl, Nat.le_of_ble_eq_true rfl⟩, hg _ m_660, hg _ m_51⟩ (pw_V hK hN hT hA hP hD hS [0, 1, 2, 3, 4, 5, 6, 7] rfl (by decide) (q0 := 0) (ci := 5) rfl rfl) rfl rfl hl.1 rfl (lv_room (Nat.le_of_ble_eq_true rfl)) d_Mo_load_34 ⟨Nat.le_of_ble_eq_true rfl, Nat.le_of_ble_eq_true rfl⟩) (fun H locs hP hD hS => ?_)
          have hP : va_P D classes (W_Mo cI cL b0 b1 b2 b3 b4 b5 b6 b7 ev wr wg ke ma li ps pn cy ((f_Mo_illegal ca va px).1) ((f_Mo_illegal ca va px).2) cn pp px go ne gi gn) H := hP
          have hD : va_D A (W_Mo cI cL b0 b1 b2 b3 b4 b5 b6 b7 ev wr wg ke ma li ps pn cy ((f_Mo_illegal ca va px).1) ((f_Mo_illegal ca va px).2) cn pp px go ne gi gn) := hD
          generalize e_t7 : f_Mo_illegal ca va px = t7 at hP hD ⊢
          refine lv_goto (tgt := 107) hx hb d_Mo_load_37 (by decide) ?_
          rw [f_Mo_load_e5 wr wg li ca va cn px go gi gn f a t7 e_t7 h3 h14 h25 h30]
          exact W.vret hx hb hr (fun t ht hW => ⟨⟨(), rfl, trivial, by show va_P D classes _ t.heap; rw [ht]; exact hP⟩, hS.F ht⟩) hS.2.2 d_Mo_load_107 hlocks
    · refine lv_iconst (v := 2) hx hb d_Mo_load_17 (by decide) ?_
      refine lv_goto (tgt := 22) hx hb d_Mo_load_18 (by decide) ?_
      refine lv_istore_n (lv' := [(3, .int _), (0, .ref _), (1, .int _), (2, .int _)]) hx hb d_Mo_load_22 rfl hl (by decide) rfl (fun ls hl => ?_)
      refine lv_iload_n hx hb d_Mo_load_23 rfl (lv_at hl 2 rfl) ?_
      refine lv_iconst (v := 3) hx hb d_Mo_load_24 (by decide) ?_
      refine lv_icmp_eq (tgt := 33) hx hb d_Mo_load_25 (by decide) (fun h25 => ?_) (fun h25 => ?_)
      · refine lv_aload_n hx hb d_Mo_load_33 rfl (lv_at hl 1 rfl) ?_
        refine cj_v (wc := (W_Mo cI cL b0 b1 b2 b3 b4 b5 b6 b7 ev wr wg ke ma li ps pn cy ca va cn pp px go ne gi gn)) (w1 := (W_Mo cI cL b0 b1 b2 b3 b4 b5 b6 b7 ev wr wg ke ma li ps pn cy ((f_Mo_illegal ca va px).1) ((f_Mo_illegal ca va px).2) cn pp px go ne gi gn)) hP hD hS hA [0, 1, 2, 3, 4, 5, 6, 7] rfl [b0, b1, b2, b3, b4, b5, b6, b7] rfl rfl (va_runV (rest := []) ⟨hx, hb, hml, hown, hg⟩ (c_Mo_illegal l D cI cL b0 b1 b2 b3 b4 b5 b6 b7 _ ev wr wg ke ma li ps pn cy ca va cn pp px go ne gi gn) ⟨callB_of 0 hg (gw_good m_661) rfl rfl rfl (hg _ m_71) (hg _ m_658) hd_Mo_illegal ⟨Nat.le_of_ble_eq_true rfl, Nat.le_of_ble_eq_true rfl⟩, hg _ m_660, hg _ m_51⟩ (pw_V hK hN hT hA hP hD hS [0, 1, 2, 3, 4, 5, 6, 7] rfl (by decide) (q0 := 0) (ci := 5) rfl rfl) rfl rfl hl.1 rfl (lv_room (Nat.le_of_ble_eq_true rfl)) d_Mo_load_34 ⟨Nat.le_of_ble_eq_true rfl, Nat.le_of_ble_eq_true rfl⟩) (fun H locs hP hD hS => ?_)
        have hP : va_P D classes (W_Mo cI cL b0 b1 b2 b3 b4 b5 b6 b7 ev wr wg ke ma li ps pn cy ((f_Mo_illegal ca va px).1) ((f_Mo_illegal ca va px).2) cn pp px go ne gi gn) H := hP
        have hD : va_D A (W_Mo cI cL b0 b1 b2 b3 b4 b5 b6 b7 ev wr wg ke ma li ps pn cy ((f_Mo_illegal ca va px).1) ((f_Mo_illegal ca va px).2) cn pp px go ne gi gn) := hD
        generalize e_t8 : f_Mo_illegal ca va px = t8 at hP hD ⊢
        refine lv_goto (tgt := 107) hx hb d_Mo_load_37 (by decide) ?_
        rw [f_Mo_load_e6 wr wg li ca va cn px go gi gn f a t8 e_t8 h3 h14 h25]
        exact W.vret hx hb hr (fun t ht hW => ⟨⟨(), rfl, trivial, by show va_P D classes _ t.heap; rw [ht]; exact hP⟩, hS.F ht⟩) hS.2.2 d_Mo_load_107 hlocks
      · refine lv_iload_n hx hb d_Mo_load_28 rfl (lv_at hl 2 rfl) ?_
        refine lv_iconst (v := 5) hx hb d_Mo_load_29 (by decide) ?_
        refine lv_icmp_le (tgt := 40) hx hb d_Mo_load_30 (by decide) (fun h30 => ?_) (fun h30 => ?_)
        · refine lv_aload_n hx hb d_Mo_load_40 rfl (lv_at hl 1 rfl) ?_
          refine lv_iload_n hx hb d_Mo_load_41 rfl (lv_at hl 3 rfl) ?_
          refine lv_iload_n hx hb d_Mo_load_42 rfl (lv_at hl 0 rfl) ?_
          refine cj_i (wc := (W_Mo cI cL b0 b1 b2 b3 b4 b5 b6 b7 ev wr wg ke ma li ps pn cy ca va cn pp px go ne gi gn)) (w1 := (W_Mo cI cL b0 b1 b2 b3 b4 b5 b6 b7 ev wr wg ke ma li ps pn cy ((f_Mo_reaches ca va a (2 : Int32)).2.1) ((f_Mo_reaches ca va a (2 : Int32)).2.2) cn pp px go ne gi gn)) hP hD hS hA [0, 1, 2, 3, 4, 5, 6, 7] rfl [b0, b1, b2, b3, b4, b5, b6, b7] rfl rfl (va_runV (rest := []) ⟨hx, hb, hml, hown, hg⟩ (c_Mo_reaches l D cI cL b0 b1 b2 b3 b4 b5 b6 b7 _ ev wr wg ke ma li ps pn cy ca va cn pp px go ne gi gn a (2 : Int32) (by decide)) ⟨callB_of 2 hg (gw_good m_680) rfl rfl rfl (hg _ m_71) (hg _ m_677) hd_Mo_reaches ⟨Nat.le_of_ble_eq_true rfl, Nat.le_of_ble_eq_true rfl⟩, hg _ m_679, hg _ m_55⟩ (pw_V hK hN hT hA hP hD hS [0, 1, 2, 3, 4, 5, 6, 7] rfl (by decide) (q0 := 0) (ci := 5) rfl rfl) rfl rfl hl.1 rfl (lv_room (Nat.le_of_ble_eq_true rfl)) d_Mo_load_43 ⟨Nat.le_of_ble_eq_true rfl, Nat.le_of_ble_eq_true rfl⟩) (fun H locs hP hD hS => ?_)
          have hP : va_P D classes (W_Mo cI cL b0 b1 b2 b3 b4 b5 b6 b7 ev wr wg ke ma li ps pn cy ((f_Mo_reaches ca va a (2 : Int32)).2.1) ((f_Mo_reaches ca va a (2 : Int32)).2.2) cn pp px go ne gi gn) H := hP
          have hD : va_D A (W_Mo cI cL b0 b1 b2 b3 b4 b5 b6 b7 ev wr wg ke ma li ps pn cy ((f_Mo_reaches ca va a (2 : Int32)).2.1) ((f_Mo_reaches ca va a (2 : Int32)).2.2) cn pp px go ne gi gn) := hD
          generalize e_t9 : f_Mo_reaches ca va a (2 : Int32) = t9 at hP hD ⊢
          refine lv_if_eq (tgt := 107) hx hb d_Mo_load_46 (by decide) (fun h46 => ?_) (fun h46 => ?_)
          · rw [f_Mo_load_e7 wr wg li ca va cn px go gi gn f a t9 e_t9 h3 h14 h25 h30 h46]
            exact W.vret hx hb hr (fun t ht hW => ⟨⟨(), rfl, trivial, by show va_P D classes _ t.heap; rw [ht]; exact hP⟩, hS.F ht⟩) hS.2.2 d_Mo_load_107 hlocks
          · refine lv_aload_n hx hb d_Mo_load_49 rfl (lv_at hl 1 rfl) ?_
            refine lv_iconst (v := 1) hx hb d_Mo_load_50 (by decide) ?_
            refine lv_iload_n hx hb d_Mo_load_51 rfl (lv_at hl 3 rfl) ?_
            refine lv_iconst (v := 4) hx hb d_Mo_load_52 (by decide) ?_
            refine lv_idiv hx hb d_Mo_load_53 (by decide) ?_
            refine cj_i (wc := (W_Mo cI cL b0 b1 b2 b3 b4 b5 b6 b7 ev wr wg ke ma li ps pn cy t9.2.1 t9.2.2 cn pp px go ne gi gn)) (w1 := (W_Mo cI cL b0 b1 b2 b3 b4 b5 b6 b7 ev wr ((f_Mo_fetch wr wg li t9.2.1 t9.2.2 cn go (1 : Int32) (a / (4 : Int32))).2.1) ke ma ((f_Mo_fetch wr wg li t9.2.1 t9.2.2 cn go (1 : Int32) (a / (4 : Int32))).2.2.1) ps pn cy ((f_Mo_fetch wr wg li t9.2.1 t9.2.2 cn go (1 : Int32) (a / (4 : Int32))).2.2.2.1) ((f_Mo_fetch wr wg li t9.2.1 t9.2.2 cn go (1 : Int32) (a / (4 : Int32))).2.2.2.2.1) ((f_Mo_fetch wr wg li t9.2.1 t9.2.2 cn go (1 : Int32) (a / (4 : Int32))).2.2.2.2.2.1) pp px ((f_Mo_fetch wr wg li t9.2.1 t9.2.2 cn go (1 : Int32) (a / (4 : Int32))).2.2.2.2.2.2) ne gi gn)) hP hD hS hA [0, 1, 2, 3, 4, 5, 6, 7] rfl [b0, b1, b2, b3, b4, b5, b6, b7] rfl rfl (va_runV (rest := []) ⟨hx, hb, hml, hown, hg⟩ (c_Mo_fetch l D cI cL b0 b1 b2 b3 b4 b5 b6 b7 _ ev wr wg ke ma li ps pn cy t9.2.1 t9.2.2 cn pp px go ne gi gn (1 : Int32) (a / (4 : Int32)) (vp_ofb (by decide)) (in_reach h46)) ⟨callB_of 2 hg (gw_good m_599) rfl rfl rfl (hg _ m_71) (hg _ m_596) hd_Mo_fetch ⟨Nat.le_of_ble_eq_true rfl, Nat.le_of_ble_eq_true rfl⟩, hg _ m_598, hg _ m_41⟩ (pw_V hK hN hT hA hP hD hS [0, 1, 2, 3, 4, 5, 6, 7] rfl (by decide) (q0 := 0) (ci := 5) rfl rfl) rfl rfl hl.1 rfl (lv_room (Nat.le_of_ble_eq_true rfl)) d_Mo_load_54 ⟨Nat.le_of_ble_eq_true rfl, Nat.le_of_ble_eq_true rfl⟩) (fun H locs hP hD hS => ?_)
            have hP : va_P D classes (W_Mo cI cL b0 b1 b2 b3 b4 b5 b6 b7 ev wr ((f_Mo_fetch wr wg li t9.2.1 t9.2.2 cn go (1 : Int32) (a / (4 : Int32))).2.1) ke ma ((f_Mo_fetch wr wg li t9.2.1 t9.2.2 cn go (1 : Int32) (a / (4 : Int32))).2.2.1) ps pn cy ((f_Mo_fetch wr wg li t9.2.1 t9.2.2 cn go (1 : Int32) (a / (4 : Int32))).2.2.2.1) ((f_Mo_fetch wr wg li t9.2.1 t9.2.2 cn go (1 : Int32) (a / (4 : Int32))).2.2.2.2.1) ((f_Mo_fetch wr wg li t9.2.1 t9.2.2 cn go (1 : Int32) (a / (4 : Int32))).2.2.2.2.2.1) pp px ((f_Mo_fetch wr wg li t9.2.1 t9.2.2 cn go (1 : Int32) (a / (4 : Int32))).2.2.2.2.2.2) ne gi gn) H := hP
            have hD : va_D A (W_Mo cI cL b0 b1 b2 b3 b4 b5 b6 b7 ev wr ((f_Mo_fetch wr wg li t9.2.1 t9.2.2 cn go (1 : Int32) (a / (4 : Int32))).2.1) ke ma ((f_Mo_fetch wr wg li t9.2.1 t9.2.2 cn go (1 : Int32) (a / (4 : Int32))).2.2.1) ps pn cy ((f_Mo_fetch wr wg li t9.2.1 t9.2.2 cn go (1 : Int32) (a / (4 : Int32))).2.2.2.1) ((f_Mo_fetch wr wg li t9.2.1 t9.2.2 cn go (1 : Int32) (a / (4 : Int32))).2.2.2.2.1) ((f_Mo_fetch wr wg li t9.2.1 t9.2.2 cn go (1 : Int32) (a / (4 : Int32))).2.2.2.2.2.1) pp px ((f_Mo_fetch wr wg li t9.2.1 t9.2.2 cn go (1 : Int32) (a / (4 : Int32))).2.2.2.2.2.2) ne gi gn) := hD
            generalize e_t10 : f_Mo_fetch wr wg li t9.2.1 t9.2.2 cn go (1 : Int32) (a / (4 : Int32)) = t10 at hP hD ⊢
            refine lv_if_eq (tgt := 107) hx hb d_Mo_load_57 (by decide) (fun h57 => ?_) (fun h57 => ?_)
            · rw [f_Mo_load_e8 wr wg li ca va cn px go gi gn f a t9 t10 e_t9 e_t10 h3 h14 h25 h30 h46 h57]
              exact W.vret hx hb hr (fun t ht hW => ⟨⟨(), rfl, trivial, by show va_P D classes _ t.heap; rw [ht]; exact hP⟩, hS.F ht⟩) hS.2.2 d_Mo_load_107 hlocks
            · refine lv_bipush (v := 32) hx hb d_Mo_load_60 (by decide) ?_
              refine lv_bipush (v := 8) hx hb d_Mo_load_62 (by decide) ?_
              refine lv_iload_n hx hb d_Mo_load_64 rfl (lv_at hl 0 rfl) ?_
              refine lv_imul hx hb d_Mo_load_65 ?_
              refine lv_isub hx hb d_Mo_load_66 ?_
              refine lv_istore (lv' := [(4, .int _), (3, .int _), (0, .ref _), (1, .int _), (2, .int _)]) hx hb d_Mo_load_67 hl (by decide) rfl (fun ls hl => ?_)
              refine lv_aload_n hx hb d_Mo_load_69 rfl (lv_at hl 2 rfl) ?_
              refine va_get (ci := 5) (C := R_Mo) (T := F_Mo) (N := 18) hx hb hg in_Mo hown hK hP 0 rfl rfl 14 (by decide) (hg _ m_517) (fun _ h => h) rfl d_Mo_load_70 ?_
              refine lv_bipush (v := 8) hx hb d_Mo_load_73 (by decide) ?_
              refine lv_iload_n hx hb d_Mo_load_75 rfl (lv_at hl 4 rfl) ?_
              refine lv_iconst (v := 4) hx hb d_Mo_load_76 (by decide) ?_
              refine lv_irem hx hb d_Mo_load_77 (by decide) ?_
              refine lv_imul hx hb d_Mo_load_78 ?_
              refine lv_ishr hx hb d_Mo_load_79 ?_
              refine lv_iload hx hb d_Mo_load_80 (lv_at hl 0 rfl) ?_
              refine lv_ishl hx hb d_Mo_load_82 ?_
              refine lv_topi (fun t11 e_t11 => ?_)
              have e_t11 := e_t11.symm
              refine lv_istore (lv' := [(5, .int _), (4, .int _), (3, .int _), (0, .ref _), (1, .int _), (2, .int _)]) hx hb d_Mo_load_83 hl (by decide) rfl (fun ls hl => ?_)
              refine lv_aload_n hx hb d_Mo_load_85 rfl (lv_at hl 3 rfl) ?_
              refine lv_iload_n hx hb d_Mo_load_86 rfl (lv_at hl 4 rfl) ?_
              refine lv_iconst (v := 4) hx hb d_Mo_load_87 (by decide) ?_
              refine lv_icmp_ge (tgt := 99) hx hb d_Mo_load_88 (by decide) (fun h88 => ?_) (fun h88 => ?_)
              · refine lv_iload hx hb d_Mo_load_99 (lv_at hl 0 rfl) ?_
                refine lv_iload hx hb d_Mo_load_101 (lv_at hl 1 rfl) ?_
                refine lv_iushr (v := u_ush _ _) hx hb d_Mo_load_103 rfl ?_
                refine cj_v (wc := (W_Mo cI cL b0 b1 b2 b3 b4 b5 b6 b7 ev wr t10.2.1 ke ma t10.2.2.1 ps pn cy t10.2.2.2.1 t10.2.2.2.2.1 t10.2.2.2.2.2.1 pp px t10.2.2.2.2.2.2 ne gi gn)) (w1 := (W_Mo cI cL b0 b1 b2 b3 b4 b5 b6 b7 ev wr t10.2.1 ke ma t10.2.2.1 ps pn cy t10.2.2.2.1 t10.2.2.2.2.1 t10.2.2.2.2.2.1 pp px t10.2.2.2.2.2.2 ne ((f_Mo_give gi gn (u_ush t11 ((32 : Int32) - ((8 : Int32) * (2 : Int32))))).1) ((f_Mo_give gi gn (u_ush t11 ((32 : Int32) - ((8 : Int32) * (2 : Int32))))).2))) hP hD hS hA [0, 1, 2, 3, 4, 5, 6, 7] rfl [b0, b1, b2, b3, b4, b5, b6, b7] rfl rfl (va_runV (rest := []) ⟨hx, hb, hml, hown, hg⟩ (c_Mo_give l D cI cL b0 b1 b2 b3 b4 b5 b6 b7 _ ev wr t10.2.1 ke ma t10.2.2.1 ps pn cy t10.2.2.2.1 t10.2.2.2.2.1 t10.2.2.2.2.2.1 pp px t10.2.2.2.2.2.2 ne gi gn (u_ush t11 ((32 : Int32) - ((8 : Int32) * (2 : Int32))))) ⟨callB_of 1 hg (gw_good m_645) rfl rfl rfl (hg _ m_71) (hg _ m_642) hd_Mo_give ⟨Nat.le_of_ble_eq_true rfl, Nat.le_of_ble_eq_true rfl⟩, hg _ m_644, hg _ m_47⟩ (pw_V hK hN hT hA hP hD hS [0, 1, 2, 3, 4, 5, 6, 7] rfl (by decide) (q0 := 0) (ci := 5) rfl rfl) rfl rfl hl.1 rfl (lv_room (Nat.le_of_ble_eq_true rfl)) d_Mo_load_104 ⟨Nat.le_of_ble_eq_true rfl, Nat.le_of_ble_eq_true rfl⟩) (fun H locs hP hD hS => ?_)
                have hP : va_P D classes (W_Mo cI cL b0 b1 b2 b3 b4 b5 b6 b7 ev wr t10.2.1 ke ma t10.2.2.1 ps pn cy t10.2.2.2.1 t10.2.2.2.2.1 t10.2.2.2.2.2.1 pp px t10.2.2.2.2.2.2 ne ((f_Mo_give gi gn (u_ush t11 ((32 : Int32) - ((8 : Int32) * (2 : Int32))))).1) ((f_Mo_give gi gn (u_ush t11 ((32 : Int32) - ((8 : Int32) * (2 : Int32))))).2)) H := hP
                have hD : va_D A (W_Mo cI cL b0 b1 b2 b3 b4 b5 b6 b7 ev wr t10.2.1 ke ma t10.2.2.1 ps pn cy t10.2.2.2.1 t10.2.2.2.2.1 t10.2.2.2.2.2.1 pp px t10.2.2.2.2.2.2 ne ((f_Mo_give gi gn (u_ush t11 ((32 : Int32) - ((8 : Int32) * (2 : Int32))))).1) ((f_Mo_give gi gn (u_ush t11 ((32 : Int32) - ((8 : Int32) * (2 : Int32))))).2)) := hD
                generalize e_t12 : f_Mo_give gi gn (u_ush t11 ((32 : Int32) - ((8 : Int32) * (2 : Int32)))) = t12 at hP hD ⊢
                rw [f_Mo_load_e9 wr wg li ca va cn px go gi gn f a t9 t10 t11 t12 e_t9 e_t10 e_t11 e_t12 h3 h14 h25 h30 h46 h57 h88]
                exact W.vret hx hb hr (fun t ht hW => ⟨⟨(), rfl, trivial, by show va_P D classes _ t.heap; rw [ht]; exact hP⟩, hS.F ht⟩) hS.2.2 d_Mo_load_107 hlocks
              · refine lv_iload hx hb d_Mo_load_91 (lv_at hl 0 rfl) ?_
                refine lv_iload hx hb d_Mo_load_93 (lv_at hl 1 rfl) ?_
                refine lv_ishr hx hb d_Mo_load_95 ?_
                refine lv_goto (tgt := 104) hx hb d_Mo_load_96 (by decide) ?_
                refine cj_v (wc := (W_Mo cI cL b0 b1 b2 b3 b4 b5 b6 b7 ev wr t10.2.1 ke ma t10.2.2.1 ps pn cy t10.2.2.2.1 t10.2.2.2.2.1 t10.2.2.2.2.2.1 pp px t10.2.2.2.2.2.2 ne gi gn)) (w1 := (W_Mo cI cL b0 b1 b2 b3 b4 b5 b6 b7 ev wr t10.2.1 ke ma t10.2.2.1 ps pn cy t10.2.2.2.1 t10.2.2.2.2.1 t10.2.2.2.2.2.1 pp px t10.2.2.2.2.2.2 ne ((f_Mo_give gi gn (t11 >>> (((32 : Int32) - ((8 : Int32) * (2 : Int32))) &&& 31))).1) ((f_Mo_give gi gn (t11 >>> (((32 : Int32) - ((8 : Int32) * (2 : Int32))) &&& 31))).2))) hP hD hS hA [0, 1, 2, 3, 4, 5, 6, 7] rfl [b0, b1, b2, b3, b4, b5, b6, b7] rfl rfl (va_runV (rest := []) ⟨hx, hb, hml, hown, hg⟩ (c_Mo_give l D cI cL b0 b1 b2 b3 b4 b5 b6 b7 _ ev wr t10.2.1 ke ma t10.2.2.1 ps pn cy t10.2.2.2.1 t10.2.2.2.2.1 t10.2.2.2.2.2.1 pp px t10.2.2.2.2.2.2 ne gi gn (t11 >>> (((32 : Int32) - ((8 : Int32) * (2 : Int32))) &&& 31))) ⟨callB_of 1 hg (gw_good m_645) rfl rfl rfl (hg _ m_71) (hg _ m_642) hd_Mo_give ⟨Nat.le_of_ble_eq_true rfl, Nat.le_of_ble_eq_true rfl⟩, hg _ m_644, hg _ m_47⟩ (pw_V hK hN hT hA hP hD hS [0, 1, 2, 3, 4, 5, 6, 7] rfl (by decide) (q0 := 0) (ci := 5) rfl rfl) rfl rfl hl.1 rfl (lv_room (Nat.le_of_ble_eq_true rfl)) d_Mo_load_104 ⟨Nat.le_of_ble_eq_true rfl, Nat.le_of_ble_eq_true rfl⟩) (fun H locs hP hD hS => ?_)
                have hP : va_P D classes (W_Mo cI cL b0 b1 b2 b3 b4 b5 b6 b7 ev wr t10.2.1 ke ma t10.2.2.1 ps pn cy t10.2.2.2.1 t10.2.2.2.2.1 t10.2.2.2.2.2.1 pp px t10.2.2.2.2.2.2 ne ((f_Mo_give gi gn (t11 >>> (((32 : Int32) - ((8 : Int32) * (2 : Int32))) &&& 31))).1) ((f_Mo_give gi gn (t11 >>> (((32 : Int32) - ((8 : Int32) * (2 : Int32))) &&& 31))).2)) H := hP
                have hD : va_D A (W_Mo cI cL b0 b1 b2 b3 b4 b5 b6 b7 ev wr t10.2.1 ke ma t10.2.2.1 ps pn cy t10.2.2.2.1 t10.2.2.2.2.1 t10.2.2.2.2.2.1 pp px t10.2.2.2.2.2.2 ne ((f_Mo_give gi gn (t11 >>> (((32 : Int32) - ((8 : Int32) * (2 : Int32))) &&& 31))).1) ((f_Mo_give gi gn (t11 >>> (((32 : Int32) - ((8 : Int32) * (2 : Int32))) &&& 31))).2)) := hD
                generalize e_t13 : f_Mo_give gi gn (t11 >>> (((32 : Int32) - ((8 : Int32) * (2 : Int32))) &&& 31)) = t13 at hP hD ⊢
                rw [f_Mo_load_e10 wr wg li ca va cn px go gi gn f a t9 t10 t11 t13 e_t9 e_t10 e_t11 e_t13 h3 h14 h25 h30 h46 h57 h88]
                exact W.vret hx hb hr (fun t ht hW => ⟨⟨(), rfl, trivial, by show va_P D classes _ t.heap; rw [ht]; exact hP⟩, hS.F ht⟩) hS.2.2 d_Mo_load_107 hlocks
        · refine lv_aload_n hx hb d_Mo_load_33 rfl (lv_at hl 1 rfl) ?_
          refine cj_v (wc := (W_Mo cI cL b0 b1 b2 b3 b4 b5 b6 b7 ev wr wg ke ma li ps pn cy ca va cn pp px go ne gi gn)) (w1 := (W_Mo cI cL b0 b1 b2 b3 b4 b5 b6 b7 ev wr wg ke ma li ps pn cy ((f_Mo_illegal ca va px).1) ((f_Mo_illegal ca va px).2) cn pp px go ne gi gn)) hP hD hS hA [0, 1, 2, 3, 4, 5, 6, 7] rfl [b0, b1, b2, b3, b4, b5, b6, b7] rfl rfl (va_runV (rest := []) ⟨hx, hb, hml, hown, hg⟩ (c_Mo_illegal l D cI cL b0 b1 b2 b3 b4 b5 b6 b7 _ ev wr wg ke ma li ps pn cy ca va cn pp px go ne gi gn) ⟨callB_of 0 hg (gw_good m_661) rfl rfl rfl (hg _ m_71) (hg _ m_658) hd_Mo_illegal ⟨Nat.le_of_ble_eq_true rfl, Nat.le_of_ble_eq_true rfl⟩, hg _ m_660, hg _ m_51⟩ (pw_V hK hN hT hA hP hD hS [0, 1, 2, 3, 4, 5, 6, 7] rfl (by decide) (q0 := 0) (ci := 5) rfl rfl) rfl rfl hl.1 rfl (lv_room (Nat.le_of_ble_eq_true rfl)) d_Mo_load_34 ⟨Nat.le_of_ble_eq_true rfl, Nat.le_of_ble_eq_true rfl⟩) (fun H locs hP hD hS => ?_)
          have hP : va_P D classes (W_Mo cI cL b0 b1 b2 b3 b4 b5 b6 b7 ev wr wg ke ma li ps pn cy ((f_Mo_illegal ca va px).1) ((f_Mo_illegal ca va px).2) cn pp px go ne gi gn) H := hP
          have hD : va_D A (W_Mo cI cL b0 b1 b2 b3 b4 b5 b6 b7 ev wr wg ke ma li ps pn cy ((f_Mo_illegal ca va px).1) ((f_Mo_illegal ca va px).2) cn pp px go ne gi gn) := hD
          generalize e_t14 : f_Mo_illegal ca va px = t14 at hP hD ⊢
          refine lv_goto (tgt := 107) hx hb d_Mo_load_37 (by decide) ?_
          rw [f_Mo_load_e11 wr wg li ca va cn px go gi gn f a t14 e_t14 h3 h14 h25 h30]
          exact W.vret hx hb hr (fun t ht hW => ⟨⟨(), rfl, trivial, by show va_P D classes _ t.heap; rw [ht]; exact hP⟩, hS.F ht⟩) hS.2.2 d_Mo_load_107 hlocks
  · refine lv_iconst (v := 1) hx hb d_Mo_load_6 (by decide) ?_
    refine lv_goto (tgt := 22) hx hb d_Mo_load_7 (by decide) ?_
    refine lv_istore_n (lv' := [(3, .int _), (0, .ref _), (1, .int _), (2, .int _)]) hx hb d_Mo_load_22 rfl hl (by decide) rfl (fun ls hl => ?_)
    refine lv_iload_n hx hb d_Mo_load_23 rfl (lv_at hl 2 rfl) ?_
    refine lv_iconst (v := 3) hx hb d_Mo_load_24 (by decide) ?_
    refine lv_icmp_eq (tgt := 33) hx hb d_Mo_load_25 (by decide) (fun h25 => ?_) (fun h25 => ?_)
    · refine lv_aload_n hx hb d_Mo_load_33 rfl (lv_at hl 1 rfl) ?_
      refine cj_v (wc := (W_Mo cI cL b0 b1 b2 b3 b4 b5 b6 b7 ev wr wg ke ma li ps pn cy ca va cn pp px go ne gi gn)) (w1 := (W_Mo cI cL b0 b1 b2 b3 b4 b5 b6 b7 ev wr wg ke ma li ps pn cy ((f_Mo_illegal ca va px).1) ((f_Mo_illegal ca va px).2) cn pp px go ne gi gn)) hP hD hS hA [0, 1, 2, 3, 4, 5, 6, 7] rfl [b0, b1, b2, b3, b4, b5, b6, b7] rfl rfl (va_runV (rest := []) ⟨hx, hb, hml, hown, hg⟩ (c_Mo_illegal l D cI cL b0 b1 b2 b3 b4 b5 b6 b7 _ ev wr wg ke ma li ps pn cy ca va cn pp px go ne gi gn) ⟨callB_of 0 hg (gw_good m_661) rfl rfl rfl (hg _ m_71) (hg _ m_658) hd_Mo_illegal ⟨Nat.le_of_ble_eq_true rfl, Nat.le_of_ble_eq_true rfl⟩, hg _ m_660, hg _ m_51⟩ (pw_V hK hN hT hA hP hD hS [0, 1, 2, 3, 4, 5, 6, 7] rfl (by decide) (q0 := 0) (ci := 5) rfl rfl) rfl rfl hl.1 rfl (lv_room (Nat.le_of_ble_eq_true rfl)) d_Mo_load_34 ⟨Nat.le_of_ble_eq_true rfl, Nat.le_of_ble_eq_true rfl⟩) (fun H locs hP hD hS => ?_)
      have hP : va_P D classes (W_Mo cI cL b0 b1 b2 b3 b4 b5 b6 b7 ev wr wg ke ma li ps pn cy ((f_Mo_illegal ca va px).1) ((f_Mo_illegal ca va px).2) cn pp px go ne gi gn) H := hP
      have hD : va_D A (W_Mo cI cL b0 b1 b2 b3 b4 b5 b6 b7 ev wr wg ke ma li ps pn cy ((f_Mo_illegal ca va px).1) ((f_Mo_illegal ca va px).2) cn pp px go ne gi gn) := hD
      generalize e_t15 : f_Mo_illegal ca va px = t15 at hP hD ⊢
      refine lv_goto (tgt := 107) hx hb d_Mo_load_37 (by decide) ?_
      rw [f_Mo_load_e12 wr wg li ca va cn px go gi gn f a t15 e_t15 h3 h25]
      exact W.vret hx hb hr (fun t ht hW => ⟨⟨(), rfl, trivial, by show va_P D classes _ t.heap; rw [ht]; exact hP⟩, hS.F ht⟩) hS.2.2 d_Mo_load_107 hlocks
    · refine lv_iload_n hx hb d_Mo_load_28 rfl (lv_at hl 2 rfl) ?_
      refine lv_iconst (v := 5) hx hb d_Mo_load_29 (by decide) ?_
      refine lv_icmp_le (tgt := 40) hx hb d_Mo_load_30 (by decide) (fun h30 => ?_) (fun h30 => ?_)
      · refine lv_aload_n hx hb d_Mo_load_40 rfl (lv_at hl 1 rfl) ?_
        refine lv_iload_n hx hb d_Mo_load_41 rfl (lv_at hl 3 rfl) ?_
        refine lv_iload_n hx hb d_Mo_load_42 rfl (lv_at hl 0 rfl) ?_
        refine cj_i (wc := (W_Mo cI cL b0 b1 b2 b3 b4 b5 b6 b7 ev wr wg ke ma li ps pn cy ca va cn pp px go ne gi gn)) (w1 := (W_Mo cI cL b0 b1 b2 b3 b4 b5 b6 b7 ev wr wg ke ma li ps pn cy ((f_Mo_reaches ca va a (1 : Int32)).2.1) ((f_Mo_reaches ca va a (1 : Int32)).2.2) cn pp px go ne gi gn)) hP hD hS hA [0, 1, 2, 3, 4, 5, 6, 7] rfl [b0, b1, b2, b3, b4, b5, b6, b7] rfl rfl (va_runV (rest := []) ⟨hx, hb, hml, hown, hg⟩ (c_Mo_reaches l D cI cL b0 b1 b2 b3 b4 b5 b6 b7 _ ev wr wg ke ma li ps pn cy ca va cn pp px go ne gi gn a (1 : Int32) (by decide)) ⟨callB_of 2 hg (gw_good m_680) rfl rfl rfl (hg _ m_71) (hg _ m_677) hd_Mo_reaches ⟨Nat.le_of_ble_eq_true rfl, Nat.le_of_ble_eq_true rfl⟩, hg _ m_679, hg _ m_55⟩ (pw_V hK hN hT hA hP hD hS [0, 1, 2, 3, 4, 5, 6, 7] rfl (by decide) (q0 := 0) (ci := 5) rfl rfl) rfl rfl hl.1 rfl (lv_room (Nat.le_of_ble_eq_true rfl)) d_Mo_load_43 ⟨Nat.le_of_ble_eq_true rfl, Nat.le_of_ble_eq_true rfl⟩) (fun H locs hP hD hS => ?_)
        have hP : va_P D classes (W_Mo cI cL b0 b1 b2 b3 b4 b5 b6 b7 ev wr wg ke ma li ps pn cy ((f_Mo_reaches ca va a (1 : Int32)).2.1) ((f_Mo_reaches ca va a (1 : Int32)).2.2) cn pp px go ne gi gn) H := hP
        have hD : va_D A (W_Mo cI cL b0 b1 b2 b3 b4 b5 b6 b7 ev wr wg ke ma li ps pn cy ((f_Mo_reaches ca va a (1 : Int32)).2.1) ((f_Mo_reaches ca va a (1 : Int32)).2.2) cn pp px go ne gi gn) := hD
        generalize e_t16 : f_Mo_reaches ca va a (1 : Int32) = t16 at hP hD ⊢
        refine lv_if_eq (tgt := 107) hx hb d_Mo_load_46 (by decide) (fun h46 => ?_) (fun h46 => ?_)
        · rw [f_Mo_load_e13 wr wg li ca va cn px go gi gn f a t16 e_t16 h3 h25 h30 h46]
          exact W.vret hx hb hr (fun t ht hW => ⟨⟨(), rfl, trivial, by show va_P D classes _ t.heap; rw [ht]; exact hP⟩, hS.F ht⟩) hS.2.2 d_Mo_load_107 hlocks
        · refine lv_aload_n hx hb d_Mo_load_49 rfl (lv_at hl 1 rfl) ?_
          refine lv_iconst (v := 1) hx hb d_Mo_load_50 (by decide) ?_
          refine lv_iload_n hx hb d_Mo_load_51 rfl (lv_at hl 3 rfl) ?_
          refine lv_iconst (v := 4) hx hb d_Mo_load_52 (by decide) ?_
          refine lv_idiv hx hb d_Mo_load_53 (by decide) ?_
          refine cj_i (wc := (W_Mo cI cL b0 b1 b2 b3 b4 b5 b6 b7 ev wr wg ke ma li ps pn cy t16.2.1 t16.2.2 cn pp px go ne gi gn)) (w1 := (W_Mo cI cL b0 b1 b2 b3 b4 b5 b6 b7 ev wr ((f_Mo_fetch wr wg li t16.2.1 t16.2.2 cn go (1 : Int32) (a / (4 : Int32))).2.1) ke ma ((f_Mo_fetch wr wg li t16.2.1 t16.2.2 cn go (1 : Int32) (a / (4 : Int32))).2.2.1) ps pn cy ((f_Mo_fetch wr wg li t16.2.1 t16.2.2 cn go (1 : Int32) (a / (4 : Int32))).2.2.2.1) ((f_Mo_fetch wr wg li t16.2.1 t16.2.2 cn go (1 : Int32) (a / (4 : Int32))).2.2.2.2.1) ((f_Mo_fetch wr wg li t16.2.1 t16.2.2 cn go (1 : Int32) (a / (4 : Int32))).2.2.2.2.2.1) pp px ((f_Mo_fetch wr wg li t16.2.1 t16.2.2 cn go (1 : Int32) (a / (4 : Int32))).2.2.2.2.2.2) ne gi gn)) hP hD hS hA [0, 1, 2, 3, 4, 5, 6, 7] rfl [b0, b1, b2, b3, b4, b5, b6, b7] rfl rfl (va_runV (rest := []) ⟨hx, hb, hml, hown, hg⟩ (c_Mo_fetch l D cI cL b0 b1 b2 b3 b4 b5 b6 b7 _ ev wr wg ke ma li ps pn cy t16.2.1 t16.2.2 cn pp px go ne gi gn (1 : Int32) (a / (4 : Int32)) (vp_ofb (by decide)) (in_reach h46)) ⟨callB_of 2 hg (gw_good m_599) rfl rfl rfl (hg _ m_71) (hg _ m_596) hd_Mo_fetch ⟨Nat.le_of_ble_eq_true rfl, Nat.le_of_ble_eq_true rfl⟩, hg _ m_598, hg _ m_41⟩ (pw_V hK hN hT hA hP hD hS [0, 1, 2, 3, 4, 5, 6, 7] rfl (by decide) (q0 := 0) (ci := 5) rfl rfl) rfl rfl hl.1 rfl (lv_room (Nat.le_of_ble_eq_true rfl)) d_Mo_load_54 ⟨Nat.le_of_ble_eq_true rfl, Nat.le_of_ble_eq_true rfl⟩) (fun H locs hP hD hS => ?_)
          have hP : va_P D classes (W_Mo cI cL b0 b1 b2 b3 b4 b5 b6 b7 ev wr ((f_Mo_fetch wr wg li t16.2.1 t16.2.2 cn go (1 : Int32) (a / (4 : Int32))).2.1) ke ma ((f_Mo_fetch wr wg li t16.2.1 t16.2.2 cn go (1 : Int32) (a / (4 : Int32))).2.2.1) ps pn cy ((f_Mo_fetch wr wg li t16.2.1 t16.2.2 cn go (1 : Int32) (a / (4 : Int32))).2.2.2.1) ((f_Mo_fetch wr wg li t16.2.1 t16.2.2 cn go (1 : Int32) (a / (4 : Int32))).2.2.2.2.1) ((f_Mo_fetch wr wg li t16.2.1 t16.2.2 cn go (1 : Int32) (a / (4 : Int32))).2.2.2.2.2.1) pp px ((f_Mo_fetch wr wg li t16.2.1 t16.2.2 cn go (1 : Int32) (a / (4 : Int32))).2.2.2.2.2.2) ne gi gn) H := hP
          have hD : va_D A (W_Mo cI cL b0 b1 b2 b3 b4 b5 b6 b7 ev wr ((f_Mo_fetch wr wg li t16.2.1 t16.2.2 cn go (1 : Int32) (a / (4 : Int32))).2.1) ke ma ((f_Mo_fetch wr wg li t16.2.1 t16.2.2 cn go (1 : Int32) (a / (4 : Int32))).2.2.1) ps pn cy ((f_Mo_fetch wr wg li t16.2.1 t16.2.2 cn go (1 : Int32) (a / (4 : Int32))).2.2.2.1) ((f_Mo_fetch wr wg li t16.2.1 t16.2.2 cn go (1 : Int32) (a / (4 : Int32))).2.2.2.2.1) ((f_Mo_fetch wr wg li t16.2.1 t16.2.2 cn go (1 : Int32) (a / (4 : Int32))).2.2.2.2.2.1) pp px ((f_Mo_fetch wr wg li t16.2.1 t16.2.2 cn go (1 : Int32) (a / (4 : Int32))).2.2.2.2.2.2) ne gi gn) := hD
          generalize e_t17 : f_Mo_fetch wr wg li t16.2.1 t16.2.2 cn go (1 : Int32) (a / (4 : Int32)) = t17 at hP hD ⊢
          refine lv_if_eq (tgt := 107) hx hb d_Mo_load_57 (by decide) (fun h57 => ?_) (fun h57 => ?_)
          · rw [f_Mo_load_e14 wr wg li ca va cn px go gi gn f a t16 t17 e_t16 e_t17 h3 h25 h30 h46 h57]
            exact W.vret hx hb hr (fun t ht hW => ⟨⟨(), rfl, trivial, by show va_P D classes _ t.heap; rw [ht]; exact hP⟩, hS.F ht⟩) hS.2.2 d_Mo_load_107 hlocks
          · refine lv_bipush (v := 32) hx hb d_Mo_load_60 (by decide) ?_
            refine lv_bipush (v := 8) hx hb d_Mo_load_62 (by decide) ?_
            refine lv_iload_n hx hb d_Mo_load_64 rfl (lv_at hl 0 rfl) ?_
            refine lv_imul hx hb d_Mo_load_65 ?_
            refine lv_isub hx hb d_Mo_load_66 ?_
            refine lv_istore (lv' := [(4, .int _), (3, .int _), (0, .ref _), (1, .int _), (2, .int _)]) hx hb d_Mo_load_67 hl (by decide) rfl (fun ls hl => ?_)
            refine lv_aload_n hx hb d_Mo_load_69 rfl (lv_at hl 2 rfl) ?_
            refine va_get (ci := 5) (C := R_Mo) (T := F_Mo) (N := 18) hx hb hg in_Mo hown hK hP 0 rfl rfl 14 (by decide) (hg _ m_517) (fun _ h => h) rfl d_Mo_load_70 ?_
            refine lv_bipush (v := 8) hx hb d_Mo_load_73 (by decide) ?_
            refine lv_iload_n hx hb d_Mo_load_75 rfl (lv_at hl 4 rfl) ?_
            refine lv_iconst (v := 4) hx hb d_Mo_load_76 (by decide) ?_
            refine lv_irem hx hb d_Mo_load_77 (by decide) ?_
            refine lv_imul hx hb d_Mo_load_78 ?_
            refine lv_ishr hx hb d_Mo_load_79 ?_
            refine lv_iload hx hb d_Mo_load_80 (lv_at hl 0 rfl) ?_
            refine lv_ishl hx hb d_Mo_load_82 ?_
            refine lv_topi (fun t18 e_t18 => ?_)
            have e_t18 := e_t18.symm
            refine lv_istore (lv' := [(5, .int _), (4, .int _), (3, .int _), (0, .ref _), (1, .int _), (2, .int _)]) hx hb d_Mo_load_83 hl (by decide) rfl (fun ls hl => ?_)
            refine lv_aload_n hx hb d_Mo_load_85 rfl (lv_at hl 3 rfl) ?_
            refine lv_iload_n hx hb d_Mo_load_86 rfl (lv_at hl 4 rfl) ?_
            refine lv_iconst (v := 4) hx hb d_Mo_load_87 (by decide) ?_
            refine lv_icmp_ge (tgt := 99) hx hb d_Mo_load_88 (by decide) (fun h88 => ?_) (fun h88 => ?_)
            · refine lv_iload hx hb d_Mo_load_99 (lv_at hl 0 rfl) ?_
              refine lv_iload hx hb d_Mo_load_101 (lv_at hl 1 rfl) ?_
              refine lv_iushr (v := u_ush _ _) hx hb d_Mo_load_103 rfl ?_
              refine cj_v (wc := (W_Mo cI cL b0 b1 b2 b3 b4 b5 b6 b7 ev wr t17.2.1 ke ma t17.2.2.1 ps pn cy t17.2.2.2.1 t17.2.2.2.2.1 t17.2.2.2.2.2.1 pp px t17.2.2.2.2.2.2 ne gi gn)) (w1 := (W_Mo cI cL b0 b1 b2 b3 b4 b5 b6 b7 ev wr t17.2.1 ke ma t17.2.2.1 ps pn cy t17.2.2.2.1 t17.2.2.2.2.1 t17.2.2.2.2.2.1 pp px t17.2.2.2.2.2.2 ne ((f_Mo_give gi gn (u_ush t18 ((32 : Int32) - ((8 : Int32) * (1 : Int32))))).1) ((f_Mo_give gi gn (u_ush t18 ((32 : Int32) - ((8 : Int32) * (1 : Int32))))).2))) hP hD hS hA [0, 1, 2, 3, 4, 5, 6, 7] rfl [b0, b1, b2, b3, b4, b5, b6, b7] rfl rfl (va_runV (rest := []) ⟨hx, hb, hml, hown, hg⟩ (c_Mo_give l D cI cL b0 b1 b2 b3 b4 b5 b6 b7 _ ev wr t17.2.1 ke ma t17.2.2.1 ps pn cy t17.2.2.2.1 t17.2.2.2.2.1 t17.2.2.2.2.2.1 pp px t17.2.2.2.2.2.2 ne gi gn (u_ush t18 ((32 : Int32) - ((8 : Int32) * (1 : Int32))))) ⟨callB_of 1 hg (gw_good m_645) rfl rfl rfl (hg _ m_71) (hg _ m_642) hd_Mo_give ⟨Nat.le_of_ble_eq_true rfl, Nat.le_of_ble_eq_true rfl⟩, hg _ m_644, hg _ m_47⟩ (pw_V hK hN hT hA hP hD hS [0, 1, 2, 3, 4, 5, 6, 7] rfl (by decide) (q0 := 0) (ci := 5) rfl rfl) rfl rfl hl.1 rfl (lv_room (Nat.le_of_ble_eq_true rfl)) d_Mo_load_104 ⟨Nat.le_of_ble_eq_true rfl, Nat.le_of_ble_eq_true rfl⟩) (fun H locs hP hD hS => ?_)
              have hP : va_P D classes (W_Mo cI cL b0 b1 b2 b3 b4 b5 b6 b7 ev wr t17.2.1 ke ma t17.2.2.1 ps pn cy t17.2.2.2.1 t17.2.2.2.2.1 t17.2.2.2.2.2.1 pp px t17.2.2.2.2.2.2 ne ((f_Mo_give gi gn (u_ush t18 ((32 : Int32) - ((8 : Int32) * (1 : Int32))))).1) ((f_Mo_give gi gn (u_ush t18 ((32 : Int32) - ((8 : Int32) * (1 : Int32))))).2)) H := hP
              have hD : va_D A (W_Mo cI cL b0 b1 b2 b3 b4 b5 b6 b7 ev wr t17.2.1 ke ma t17.2.2.1 ps pn cy t17.2.2.2.1 t17.2.2.2.2.1 t17.2.2.2.2.2.1 pp px t17.2.2.2.2.2.2 ne ((f_Mo_give gi gn (u_ush t18 ((32 : Int32) - ((8 : Int32) * (1 : Int32))))).1) ((f_Mo_give gi gn (u_ush t18 ((32 : Int32) - ((8 : Int32) * (1 : Int32))))).2)) := hD
              generalize e_t19 : f_Mo_give gi gn (u_ush t18 ((32 : Int32) - ((8 : Int32) * (1 : Int32)))) = t19 at hP hD ⊢
              rw [f_Mo_load_e15 wr wg li ca va cn px go gi gn f a t16 t17 t18 t19 e_t16 e_t17 e_t18 e_t19 h3 h25 h30 h46 h57 h88]
              exact W.vret hx hb hr (fun t ht hW => ⟨⟨(), rfl, trivial, by show va_P D classes _ t.heap; rw [ht]; exact hP⟩, hS.F ht⟩) hS.2.2 d_Mo_load_107 hlocks
            · refine lv_iload hx hb d_Mo_load_91 (lv_at hl 0 rfl) ?_
              refine lv_iload hx hb d_Mo_load_93 (lv_at hl 1 rfl) ?_
              refine lv_ishr hx hb d_Mo_load_95 ?_
              refine lv_goto (tgt := 104) hx hb d_Mo_load_96 (by decide) ?_
              refine cj_v (wc := (W_Mo cI cL b0 b1 b2 b3 b4 b5 b6 b7 ev wr t17.2.1 ke ma t17.2.2.1 ps pn cy t17.2.2.2.1 t17.2.2.2.2.1 t17.2.2.2.2.2.1 pp px t17.2.2.2.2.2.2 ne gi gn)) (w1 := (W_Mo cI cL b0 b1 b2 b3 b4 b5 b6 b7 ev wr t17.2.1 ke ma t17.2.2.1 ps pn cy t17.2.2.2.1 t17.2.2.2.2.1 t17.2.2.2.2.2.1 pp px t17.2.2.2.2.2.2 ne ((f_Mo_give gi gn (t18 >>> (((32 : Int32) - ((8 : Int32) * (1 : Int32))) &&& 31))).1) ((f_Mo_give gi gn (t18 >>> (((32 : Int32) - ((8 : Int32) * (1 : Int32))) &&& 31))).2))) hP hD hS hA [0, 1, 2, 3, 4, 5, 6, 7] rfl [b0, b1, b2, b3, b4, b5, b6, b7] rfl rfl (va_runV (rest := []) ⟨hx, hb, hml, hown, hg⟩ (c_Mo_give l D cI cL b0 b1 b2 b3 b4 b5 b6 b7 _ ev wr t17.2.1 ke ma t17.2.2.1 ps pn cy t17.2.2.2.1 t17.2.2.2.2.1 t17.2.2.2.2.2.1 pp px t17.2.2.2.2.2.2 ne gi gn (t18 >>> (((32 : Int32) - ((8 : Int32) * (1 : Int32))) &&& 31))) ⟨callB_of 1 hg (gw_good m_645) rfl rfl rfl (hg _ m_71) (hg _ m_642) hd_Mo_give ⟨Nat.le_of_ble_eq_true rfl, Nat.le_of_ble_eq_true rfl⟩, hg _ m_644, hg _ m_47⟩ (pw_V hK hN hT hA hP hD hS [0, 1, 2, 3, 4, 5, 6, 7] rfl (by decide) (q0 := 0) (ci := 5) rfl rfl) rfl rfl hl.1 rfl (lv_room (Nat.le_of_ble_eq_true rfl)) d_Mo_load_104 ⟨Nat.le_of_ble_eq_true rfl, Nat.le_of_ble_eq_true rfl⟩) (fun H locs hP hD hS => ?_)
              have hP : va_P D classes (W_Mo cI cL b0 b1 b2 b3 b4 b5 b6 b7 ev wr t17.2.1 ke ma t17.2.2.1 ps pn cy t17.2.2.2.1 t17.2.2.2.2.1 t17.2.2.2.2.2.1 pp px t17.2.2.2.2.2.2 ne ((f_Mo_give gi gn (t18 >>> (((32 : Int32) - ((8 : Int32) * (1 : Int32))) &&& 31))).1) ((f_Mo_give gi gn (t18 >>> (((32 : Int32) - ((8 : Int32) * (1 : Int32))) &&& 31))).2)) H := hP
              have hD : va_D A (W_Mo cI cL b0 b1 b2 b3 b4 b5 b6 b7 ev wr t17.2.1 ke ma t17.2.2.1 ps pn cy t17.2.2.2.1 t17.2.2.2.2.1 t17.2.2.2.2.2.1 pp px t17.2.2.2.2.2.2 ne ((f_Mo_give gi gn (t18 >>> (((32 : Int32) - ((8 : Int32) * (1 : Int32))) &&& 31))).1) ((f_Mo_give gi gn (t18 >>> (((32 : Int32) - ((8 : Int32) * (1 : Int32))) &&& 31))).2)) := hD
              generalize e_t20 : f_Mo_give gi gn (t18 >>> (((32 : Int32) - ((8 : Int32) * (1 : Int32))) &&& 31)) = t20 at hP hD ⊢
              rw [f_Mo_load_e16 wr wg li ca va cn px go gi gn f a t16 t17 t18 t20 e_t16 e_t17 e_t18 e_t20 h3 h25 h30 h46 h57 h88]
              exact W.vret hx hb hr (fun t ht hW => ⟨⟨(), rfl, trivial, by show va_P D classes _ t.heap; rw [ht]; exact hP⟩, hS.F ht⟩) hS.2.2 d_Mo_load_107 hlocks
      · refine lv_aload_n hx hb d_Mo_load_33 rfl (lv_at hl 1 rfl) ?_
        refine cj_v (wc := (W_Mo cI cL b0 b1 b2 b3 b4 b5 b6 b7 ev wr wg ke ma li ps pn cy ca va cn pp px go ne gi gn)) (w1 := (W_Mo cI cL b0 b1 b2 b3 b4 b5 b6 b7 ev wr wg ke ma li ps pn cy ((f_Mo_illegal ca va px).1) ((f_Mo_illegal ca va px).2) cn pp px go ne gi gn)) hP hD hS hA [0, 1, 2, 3, 4, 5, 6, 7] rfl [b0, b1, b2, b3, b4, b5, b6, b7] rfl rfl (va_runV (rest := []) ⟨hx, hb, hml, hown, hg⟩ (c_Mo_illegal l D cI cL b0 b1 b2 b3 b4 b5 b6 b7 _ ev wr wg ke ma li ps pn cy ca va cn pp px go ne gi gn) ⟨callB_of 0 hg (gw_good m_661) rfl rfl rfl (hg _ m_71) (hg _ m_658) hd_Mo_illegal ⟨Nat.le_of_ble_eq_true rfl, Nat.le_of_ble_eq_true rfl⟩, hg _ m_660, hg _ m_51⟩ (pw_V hK hN hT hA hP hD hS [0, 1, 2, 3, 4, 5, 6, 7] rfl (by decide) (q0 := 0) (ci := 5) rfl rfl) rfl rfl hl.1 rfl (lv_room (Nat.le_of_ble_eq_true rfl)) d_Mo_load_34 ⟨Nat.le_of_ble_eq_true rfl, Nat.le_of_ble_eq_true rfl⟩) (fun H locs hP hD hS => ?_)
        have hP : va_P D classes (W_Mo cI cL b0 b1 b2 b3 b4 b5 b6 b7 ev wr wg ke ma li ps pn cy ((f_Mo_illegal ca va px).1) ((f_Mo_illegal ca va px).2) cn pp px go ne gi gn) H := hP
        have hD : va_D A (W_Mo cI cL b0 b1 b2 b3 b4 b5 b6 b7 ev wr wg ke ma li ps pn cy ((f_Mo_illegal ca va px).1) ((f_Mo_illegal ca va px).2) cn pp px go ne gi gn) := hD
        generalize e_t21 : f_Mo_illegal ca va px = t21 at hP hD ⊢
        refine lv_goto (tgt := 107) hx hb d_Mo_load_37 (by decide) ?_
        rw [f_Mo_load_e17 wr wg li ca va cn px go gi gn f a t21 e_t21 h3 h25 h30]
        exact W.vret hx hb hr (fun t ht hW => ⟨⟨(), rfl, trivial, by show va_P D classes _ t.heap; rw [ht]; exact hP⟩, hS.F ht⟩) hS.2.2 d_Mo_load_107 hlocks
abbrev q_Mo_store (D : va_G) (cI cL : ClassId) (b0 b1 b2 b3 b4 b5 b6 b7 : Nat) (A : Nat → Prop) (ev : Int32) (wr : Nat → Int32) (wg : Nat → Int64) (ke : Nat → Int32) (ma : Nat → Int32) (li : Nat → Int64) (ps : Int32) (pn : Nat → Int32) (cy : Int32) (ca : Int32) (va : Int32) (cn : Nat → Int32) (pp : Int32) (px : Int32) (go : Int32) (ne : Int32) (gi : Int32) (gn : Int32) (F : (Nat → Int32) × (Nat → Int64) × (Nat → Int64) × Int32 × Int32 × (Nat → Int32) × Int32) : Array Value → State → Outcome → State → Prop := va_Qv (fun (_ : Unit) => True) (fun _ t => va_P D classes (W_Mo cI cL b0 b1 b2 b3 b4 b5 b6 b7 ev F.1 F.2.1 ke ma F.2.2.1 ps pn cy F.2.2.2.1 F.2.2.2.2.1 F.2.2.2.2.2.1 pp px F.2.2.2.2.2.2 ne gi gn) t.heap) A
theorem f_Mo_store_e0 (wr : Nat → Int32) (wg : Nat → Int64) (li : Nat → Int64) (ca : Int32) (va : Int32) (cn : Nat → Int32) (px : Int32) (go : Int32) (f : Int32) (a : Int32) (b : Int32) (t1 : Int32 × Int32 × Int32) (e_t1 : f_Mo_reaches ca va a ((1 : Int32) <<< (f &&& 31)) = t1) (h2 : f ≤ (2 : Int32)) (h20 : t1.1 = 0) : f_Mo_store wr wg li ca va cn px go f a b = (wr, wg, li, t1.2.1, t1.2.2, cn, go) := by
  subst e_t1
  exact ((if_pos h2).trans (if_pos h20))
theorem f_Mo_store_e1 (wr : Nat → Int32) (wg : Nat → Int64) (li : Nat → Int64) (ca : Int32) (va : Int32) (cn : Nat → Int32) (px : Int32) (go : Int32) (f : Int32) (a : Int32) (b : Int32) (t1 : Int32 × Int32 × Int32) (t2 : (Nat → Int32) × (Nat → Int64) × (Nat → Int64) × (Nat → Int32)) (e_t1 : f_Mo_reaches ca va a ((1 : Int32) <<< (f &&& 31)) = t1) (e_t2 : f_Mo_save wr wg li cn (a / (4 : Int32)) (((0 : Int32) &&& (((-1 : Int32) <<< (((8 : Int32) * (u_rem a (4 : Int32))) &&& 31)) ^^^ (-1 : Int32))) ||| ((b &&& (-1 : Int32)) <<< (((8 : Int32) * (u_rem a (4 : Int32))) &&& 31))) = t2) (h2 : f ≤ (2 : Int32)) (h20 : ¬ t1.1 = 0) (h25 : f = (2 : Int32)) (h48 : ¬ f = 0) (h59 : ¬ f = (1 : Int32)) : f_Mo_store wr wg li ca va cn px go f a b = (t2.1, t2.2.1, t2.2.2.1, t1.2.1, t1.2.2, t2.2.2.2, go) := by
  subst e_t2
  subst e_t1
  exact ((if_pos h2).trans ((if_neg h20).trans ((if_pos h25).trans ((if_neg h48).trans (if_neg h59)))))
theorem f_Mo_store_e2 (wr : Nat → Int32) (wg : Nat → Int64) (li : Nat → Int64) (ca : Int32) (va : Int32) (cn : Nat → Int32) (px : Int32) (go : Int32) (f : Int32) (a : Int32) (b : Int32) (t1 : Int32 × Int32 × Int32) (t3 : (Nat → Int32) × (Nat → Int64) × (Nat → Int64) × (Nat → Int32)) (e_t1 : f_Mo_reaches ca va a ((1 : Int32) <<< (f &&& 31)) = t1) (e_t3 : f_Mo_save wr wg li cn (a / (4 : Int32)) (((0 : Int32) &&& (((65535 : Int32) <<< (((8 : Int32) * (u_rem a (4 : Int32))) &&& 31)) ^^^ (-1 : Int32))) ||| ((b &&& (65535 : Int32)) <<< (((8 : Int32) * (u_rem a (4 : Int32))) &&& 31))) = t3) (h2 : f ≤ (2 : Int32)) (h20 : ¬ t1.1 = 0) (h25 : f = (2 : Int32)) (h48 : ¬ f = 0) (h59 : f = (1 : Int32)) : f_Mo_store wr wg li ca va cn px go f a b = (t3.1, t3.2.1, t3.2.2.1, t1.2.1, t1.2.2, t3.2.2.2, go) := by
  subst e_t3
  subst e_t1
  exact ((if_pos h2).trans ((if_neg h20).trans ((if_pos h25).trans ((if_neg h48).trans (if_pos h59)))))
theorem f_Mo_store_e3 (wr : Nat → Int32) (wg : Nat → Int64) (li : Nat → Int64) (ca : Int32) (va : Int32) (cn : Nat → Int32) (px : Int32) (go : Int32) (f : Int32) (a : Int32) (b : Int32) (t1 : Int32 × Int32 × Int32) (t4 : (Nat → Int32) × (Nat → Int64) × (Nat → Int64) × (Nat → Int32)) (e_t1 : f_Mo_reaches ca va a ((1 : Int32) <<< (f &&& 31)) = t1) (e_t4 : f_Mo_save wr wg li cn (a / (4 : Int32)) (((0 : Int32) &&& (((255 : Int32) <<< (((8 : Int32) * (u_rem a (4 : Int32))) &&& 31)) ^^^ (-1 : Int32))) ||| ((b &&& (255 : Int32)) <<< (((8 : Int32) * (u_rem a (4 : Int32))) &&& 31))) = t4) (h2 : f ≤ (2 : Int32)) (h20 : ¬ t1.1 = 0) (h25 : f = (2 : Int32)) (h48 : f = 0) : f_Mo_store wr wg li ca va cn px go f a b = (t4.1, t4.2.1, t4.2.2.1, t1.2.1, t1.2.2, t4.2.2.2, go) := by
  subst e_t4
  subst e_t1
  exact ((if_pos h2).trans ((if_neg h20).trans ((if_pos h25).trans (if_pos h48))))
theorem f_Mo_store_e4 (wr : Nat → Int32) (wg : Nat → Int64) (li : Nat → Int64) (ca : Int32) (va : Int32) (cn : Nat → Int32) (px : Int32) (go : Int32) (f : Int32) (a : Int32) (b : Int32) (t1 : Int32 × Int32 × Int32) (t5 : Int32 × (Nat → Int64) × (Nat → Int64) × Int32 × Int32 × (Nat → Int32) × Int32) (e_t1 : f_Mo_reaches ca va a ((1 : Int32) <<< (f &&& 31)) = t1) (e_t5 : f_Mo_fetch wr wg li t1.2.1 t1.2.2 cn go (1 : Int32) (a / (4 : Int32)) = t5) (h2 : f ≤ (2 : Int32)) (h20 : ¬ t1.1 = 0) (h25 : ¬ f = (2 : Int32)) (h36 : t5.1 = 0) : f_Mo_store wr wg li ca va cn px go f a b = (wr, t5.2.1, t5.2.2.1, t5.2.2.2.1, t5.2.2.2.2.1, t5.2.2.2.2.2.1, t5.2.2.2.2.2.2) := by
  subst e_t5
  subst e_t1
  exact ((if_pos h2).trans ((if_neg h20).trans ((if_neg h25).trans (if_pos h36))))
theorem f_Mo_store_e5 (wr : Nat → Int32) (wg : Nat → Int64) (li : Nat → Int64) (ca : Int32) (va : Int32) (cn : Nat → Int32) (px : Int32) (go : Int32) (f : Int32) (a : Int32) (b : Int32) (t1 : Int32 × Int32 × Int32) (t5 : Int32 × (Nat → Int64) × (Nat → Int64) × Int32 × Int32 × (Nat → Int32) × Int32) (t6 : (Nat → Int32) × (Nat → Int64) × (Nat → Int64) × (Nat → Int32)) (e_t1 : f_Mo_reaches ca va a ((1 : Int32) <<< (f &&& 31)) = t1) (e_t5 : f_Mo_fetch wr wg li t1.2.1 t1.2.2 cn go (1 : Int32) (a / (4 : Int32)) = t5) (e_t6 : f_Mo_save wr t5.2.1 t5.2.2.1 t5.2.2.2.2.2.1 (a / (4 : Int32)) ((t5.2.2.2.2.2.2 &&& (((-1 : Int32) <<< (((8 : Int32) * (u_rem a (4 : Int32))) &&& 31)) ^^^ (-1 : Int32))) ||| ((b &&& (-1 : Int32)) <<< (((8 : Int32) * (u_rem a (4 : Int32))) &&& 31))) = t6) (h2 : f ≤ (2 : Int32)) (h20 : ¬ t1.1 = 0) (h25 : ¬ f = (2 : Int32)) (h36 : ¬ t5.1 = 0) (h48 : ¬ f = 0) (h59 : ¬ f = (1 : Int32)) : f_Mo_store wr wg li ca va cn px go f a b = (t6.1, t6.2.1, t6.2.2.1, t5.2.2.2.1, t5.2.2.2.2.1, t6.2.2.2, t5.2.2.2.2.2.2) := by
  subst e_t6
  subst e_t5
  subst e_t1
  exact ((if_pos h2).trans ((if_neg h20).trans ((if_neg h25).trans ((if_neg h36).trans ((if_neg h48).trans (if_neg h59))))))
theorem f_Mo_store_e6 (wr : Nat → Int32) (wg : Nat → Int64) (li : Nat → Int64) (ca : Int32) (va : Int32) (cn : Nat → Int32) (px : Int32) (go : Int32) (f : Int32) (a : Int32) (b : Int32) (t1 : Int32 × Int32 × Int32) (t5 : Int32 × (Nat → Int64) × (Nat → Int64) × Int32 × Int32 × (Nat → Int32) × Int32) (t7 : (Nat → Int32) × (Nat → Int64) × (Nat → Int64) × (Nat → Int32)) (e_t1 : f_Mo_reaches ca va a ((1 : Int32) <<< (f &&& 31)) = t1) (e_t5 : f_Mo_fetch wr wg li t1.2.1 t1.2.2 cn go (1 : Int32) (a / (4 : Int32)) = t5) (e_t7 : f_Mo_save wr t5.2.1 t5.2.2.1 t5.2.2.2.2.2.1 (a / (4 : Int32)) ((t5.2.2.2.2.2.2 &&& (((65535 : Int32) <<< (((8 : Int32) * (u_rem a (4 : Int32))) &&& 31)) ^^^ (-1 : Int32))) ||| ((b &&& (65535 : Int32)) <<< (((8 : Int32) * (u_rem a (4 : Int32))) &&& 31))) = t7) (h2 : f ≤ (2 : Int32)) (h20 : ¬ t1.1 = 0) (h25 : ¬ f = (2 : Int32)) (h36 : ¬ t5.1 = 0) (h48 : ¬ f = 0) (h59 : f = (1 : Int32)) : f_Mo_store wr wg li ca va cn px go f a b = (t7.1, t7.2.1, t7.2.2.1, t5.2.2.2.1, t5.2.2.2.2.1, t7.2.2.2, t5.2.2.2.2.2.2) := by
  subst e_t7
  subst e_t5
  subst e_t1
  exact ((if_pos h2).trans ((if_neg h20).trans ((if_neg h25).trans ((if_neg h36).trans ((if_neg h48).trans (if_pos h59))))))
theorem f_Mo_store_e7 (wr : Nat → Int32) (wg : Nat → Int64) (li : Nat → Int64) (ca : Int32) (va : Int32) (cn : Nat → Int32) (px : Int32) (go : Int32) (f : Int32) (a : Int32) (b : Int32) (t1 : Int32 × Int32 × Int32) (t5 : Int32 × (Nat → Int64) × (Nat → Int64) × Int32 × Int32 × (Nat → Int32) × Int32) (t8 : (Nat → Int32) × (Nat → Int64) × (Nat → Int64) × (Nat → Int32)) (e_t1 : f_Mo_reaches ca va a ((1 : Int32) <<< (f &&& 31)) = t1) (e_t5 : f_Mo_fetch wr wg li t1.2.1 t1.2.2 cn go (1 : Int32) (a / (4 : Int32)) = t5) (e_t8 : f_Mo_save wr t5.2.1 t5.2.2.1 t5.2.2.2.2.2.1 (a / (4 : Int32)) ((t5.2.2.2.2.2.2 &&& (((255 : Int32) <<< (((8 : Int32) * (u_rem a (4 : Int32))) &&& 31)) ^^^ (-1 : Int32))) ||| ((b &&& (255 : Int32)) <<< (((8 : Int32) * (u_rem a (4 : Int32))) &&& 31))) = t8) (h2 : f ≤ (2 : Int32)) (h20 : ¬ t1.1 = 0) (h25 : ¬ f = (2 : Int32)) (h36 : ¬ t5.1 = 0) (h48 : f = 0) : f_Mo_store wr wg li ca va cn px go f a b = (t8.1, t8.2.1, t8.2.2.1, t5.2.2.2.1, t5.2.2.2.2.1, t8.2.2.2, t5.2.2.2.2.2.2) := by
  subst e_t8
  subst e_t5
  subst e_t1
  exact ((if_pos h2).trans ((if_neg h20).trans ((if_neg h25).trans ((if_neg h36).trans (if_pos h48)))))
theorem f_Mo_store_e8 (wr : Nat → Int32) (wg : Nat → Int64) (li : Nat → Int64) (ca : Int32) (va : Int32) (cn : Nat → Int32) (px : Int32) (go : Int32) (f : Int32) (a : Int32) (b : Int32) (t9 : Int32 × Int32) (e_t9 : f_Mo_illegal ca va px = t9) (h2 : ¬ f ≤ (2 : Int32)) : f_Mo_store wr wg li ca va cn px go f a b = (wr, wg, li, t9.1, t9.2, cn, go) := by
  subst e_t9
  exact (if_neg h2)
set_option maxHeartbeats 4000000 in
set_option maxRecDepth 100000 in
theorem c_Mo_store (l : Launch) (D : va_G) (cI cL : ClassId) (b0 b1 b2 b3 b4 b5 b6 b7 : Nat) (sz : Nat) (ev : Int32) (wr : Nat → Int32) (wg : Nat → Int64) (ke : Nat → Int32) (ma : Nat → Int32) (li : Nat → Int64) (ps : Int32) (pn : Nat → Int32) (cy : Int32) (ca : Int32) (va : Int32) (cn : Nat → Int32) (pp : Int32) (px : Int32) (go : Int32) (ne : Int32) (gi : Int32) (gn : Int32) (f : Int32) (a : Int32) (b : Int32)  : Met l y_Mo_store w_Mo_store ({ frames := 4, cells := 0, slots := 0, locals := 90 }) (va_Pc [.ref b0, .int f, .int a, .int b] (PW D cI cL (W_Mo cI cL b0 b1 b2 b3 b4 b5 b6 b7 ev wr wg ke ma li ps pn cy ca va cn pp px go ne gi gn) sz)) (q_Mo_store D cI cL b0 b1 b2 b3 b4 b5 b6 b7 (va_A (W_Mo cI cL b0 b1 b2 b3 b4 b5 b6 b7 ev wr wg ke ma li ps pn cy ca va cn pp px go ne gi gn) sz) ev wr wg ke ma li ps pn cy ca va cn pp px go ne gi gn (f_Mo_store wr wg li ca va cn px go f a b)) 0 0 (va_A (W_Mo cI cL b0 b1 b2 b3 b4 b5 b6 b7 ev wr wg ke ma li ps pn cy ca va cn pp px go ne gi gn) sz) := by
  refine mk_met (Qf := fun A => q_Mo_store D cI cL b0 b1 b2 b3 b4 b5 b6 b7 A ev wr wg ke ma li ps pn cy ca va cn pp px go ne gi gn (f_Mo_store wr wg li ca va cn px go f a b)) (by decide) (Nat.le_of_ble_eq_true rfl) ?_
  intro p e s m below meth c A ls hx hb hr hlocks hml hown hg hK hN hT hA hP hD hS hnm hl
  refine lv_iload_n hx hb d_Mo_store_0 rfl (lv_at hl 1 rfl) ?_
  refine lv_iconst (v := 2) hx hb d_Mo_store_1 (by decide) ?_
  refine lv_icmp_le (tgt := 12) hx hb d_Mo_store_2 (by decide) (fun h2 => ?_) (fun h2 => ?_)
  · refine lv_aload_n hx hb d_Mo_store_12 rfl (lv_at hl 0 rfl) ?_
    refine lv_iload_n hx hb d_Mo_store_13 rfl (lv_at hl 2 rfl) ?_
    refine lv_iconst (v := 1) hx hb d_Mo_store_14 (by decide) ?_
    refine lv_iload_n hx hb d_Mo_store_15 rfl (lv_at hl 1 rfl) ?_
    refine lv_ishl hx hb d_Mo_store_16 ?_
    refine cj_i (wc := (W_Mo cI cL b0 b1 b2 b3 b4 b5 b6 b7 ev wr wg ke ma li ps pn cy ca va cn pp px go ne gi gn)) (w1 := (W_Mo cI cL b0 b1 b2 b3 b4 b5 b6 b7 ev wr wg ke ma li ps pn cy ((f_Mo_reaches ca va a ((1 : Int32) <<< (f &&& 31))).2.1) ((f_Mo_reaches ca va a ((1 : Int32) <<< (f &&& 31))).2.2) cn pp px go ne gi gn)) hP hD hS hA [0, 1, 2, 3, 4, 5, 6, 7] rfl [b0, b1, b2, b3, b4, b5, b6, b7] rfl rfl (va_runV (rest := []) ⟨hx, hb, hml, hown, hg⟩ (c_Mo_reaches l D cI cL b0 b1 b2 b3 b4 b5 b6 b7 _ ev wr wg ke ma li ps pn cy ca va cn pp px go ne gi gn a ((1 : Int32) <<< (f &&& 31)) (shl1_ne _)) ⟨callB_of 2 hg (gw_good m_680) rfl rfl rfl (hg _ m_71) (hg _ m_677) hd_Mo_reaches ⟨Nat.le_of_ble_eq_true rfl, Nat.le_of_ble_eq_true rfl⟩, hg _ m_679, hg _ m_55⟩ (pw_V hK hN hT hA hP hD hS [0, 1, 2, 3, 4, 5, 6, 7] rfl (by decide) (q0 := 0) (ci := 5) rfl rfl) rfl rfl hl.1 rfl (lv_room (Nat.le_of_ble_eq_true rfl)) d_Mo_store_17 ⟨Nat.le_of_ble_eq_true rfl, Nat.le_of_ble_eq_true rfl⟩) (fun H locs hP hD hS => ?_)
    have hP : va_P D classes (W_Mo cI cL b0 b1 b2 b3 b4 b5 b6 b7 ev wr wg ke ma li ps pn cy ((f_Mo_reaches ca va a ((1 : Int32) <<< (f &&& 31))).2.1) ((f_Mo_reaches ca va a ((1 : Int32) <<< (f &&& 31))).2.2) cn pp px go ne gi gn) H := hP
    have hD : va_D A (W_Mo cI cL b0 b1 b2 b3 b4 b5 b6 b7 ev wr wg ke ma li ps pn cy ((f_Mo_reaches ca va a ((1 : Int32) <<< (f &&& 31))).2.1) ((f_Mo_reaches ca va a ((1 : Int32) <<< (f &&& 31))).2.2) cn pp px go ne gi gn) := hD
    generalize e_t1 : f_Mo_reaches ca va a ((1 : Int32) <<< (f &&& 31)) = t1 at hP hD ⊢
    refine lv_if_eq (tgt := 110) hx hb d_Mo_store_20 (by decide) (fun h20 => ?_) (fun h20 => ?_)
    · rw [f_Mo_store_e0 wr wg li ca va cn px go f a b t1 e_t1 h2 h20]
      exact W.vret hx hb hr (fun t ht hW => ⟨⟨(), rfl, trivial, by show va_P D classes _ t.heap; rw [ht]; exact hP⟩, hS.F ht⟩) hS.2.2 d_Mo_store_110 hlocks
    · refine lv_iload_n hx hb d_Mo_store_23 rfl (lv_at hl 1 rfl) ?_
      refine lv_iconst (v := 2) hx hb d_Mo_store_24 (by decide) ?_
      refine lv_icmp_eq (tgt := 39) hx hb d_Mo_store_25 (by decide) (fun h25 => ?_) (fun h25 => ?_)
      · refine lv_bipush (v := 8) hx hb d_Mo_store_39 (by decide) ?_
        refine lv_iload_n hx hb d_Mo_store_41 rfl (lv_at hl 2 rfl) ?_
        refine lv_iconst (v := 4) hx hb d_Mo_store_42 (by decide) ?_
        refine lv_irem hx hb d_Mo_store_43 (by decide) ?_
        refine lv_imul hx hb d_Mo_store_44 ?_
        refine lv_istore (lv' := [(4, .int _), (0, .ref _), (1, .int _), (2, .int _), (3, .int _)]) hx hb d_Mo_store_45 hl (by decide) rfl (fun ls hl => ?_)
        refine lv_iload_n hx hb d_Mo_store_47 rfl (lv_at hl 2 rfl) ?_
        refine lv_if_ne (tgt := 57) hx hb d_Mo_store_48 (by decide) (fun h48 => ?_) (fun h48 => ?_)
        · refine lv_iload_n hx hb d_Mo_store_57 rfl (lv_at hl 2 rfl) ?_
          refine lv_iconst (v := 1) hx hb d_Mo_store_58 (by decide) ?_
          refine lv_icmp_ne (tgt := 67) hx hb d_Mo_store_59 (by decide) (fun h59 => ?_) (fun h59 => ?_)
          · refine lv_iconst (v := -1) hx hb d_Mo_store_67 (by decide) ?_
            refine lv_istore (lv' := [(5, .int _), (4, .int _), (0, .ref _), (1, .int _), (2, .int _), (3, .int _)]) hx hb d_Mo_store_68 hl (by decide) rfl (fun ls hl => ?_)
            refine lv_iload_n hx hb d_Mo_store_70 rfl (lv_at hl 3 rfl) ?_
            refine lv_iconst (v := 2) hx hb d_Mo_store_71 (by decide) ?_
            refine lv_icmp_ne (tgt := 79) hx hb d_Mo_store_72 (by decide) (fun h => absurd h25 h) (fun _ => ?_)
            refine lv_iconst (v := 0) hx hb d_Mo_store_75 (by decide) ?_
            refine lv_goto (tgt := 83) hx hb d_Mo_store_76 (by decide) ?_
            refine lv_istore (lv' := [(6, .int _), (5, .int _), (4, .int _), (0, .ref _), (1, .int _), (2, .int _), (3, .int _)]) hx hb d_Mo_store_83 hl (by decide) rfl (fun ls hl => ?_)
            refine lv_aload_n hx hb d_Mo_store_85 rfl (lv_at hl 3 rfl) ?_
            refine lv_iload_n hx hb d_Mo_store_86 rfl (lv_at hl 5 rfl) ?_
            refine lv_iconst (v := 4) hx hb d_Mo_store_87 (by decide) ?_
            refine lv_idiv hx hb d_Mo_store_88 (by decide) ?_
            refine lv_iload hx hb d_Mo_store_89 (lv_at hl 0 rfl) ?_
            refine lv_iload hx hb d_Mo_store_91 (lv_at hl 1 rfl) ?_
            refine lv_iload hx hb d_Mo_store_93 (lv_at hl 2 rfl) ?_
            refine lv_ishl hx hb d_Mo_store_95 ?_
            refine lv_iconst (v := -1) hx hb d_Mo_store_96 (by decide) ?_
            refine lv_ixor hx hb d_Mo_store_97 ?_
            refine lv_iand hx hb d_Mo_store_98 ?_
            refine lv_iload_n hx hb d_Mo_store_99 rfl (lv_at hl 6 rfl) ?_
            refine lv_iload hx hb d_Mo_store_100 (lv_at hl 1 rfl) ?_
            refine lv_iand hx hb d_Mo_store_102 ?_
            refine lv_iload hx hb d_Mo_store_103 (lv_at hl 2 rfl) ?_
            refine lv_ishl hx hb d_Mo_store_105 ?_
            refine lv_ior hx hb d_Mo_store_106 ?_
            refine cj_v (wc := (W_Mo cI cL b0 b1 b2 b3 b4 b5 b6 b7 ev wr wg ke ma li ps pn cy t1.2.1 t1.2.2 cn pp px go ne gi gn)) (w1 := (W_Mo cI cL b0 b1 b2 b3 b4 b5 b6 b7 ev ((f_Mo_save wr wg li cn (a / (4 : Int32)) (((0 : Int32) &&& (((-1 : Int32) <<< (((8 : Int32) * (u_rem a (4 : Int32))) &&& 31)) ^^^ (-1 : Int32))) ||| ((b &&& (-1 : Int32)) <<< (((8 : Int32) * (u_rem a (4 : Int32))) &&& 31)))).1) ((f_Mo_save wr wg li cn (a / (4 : Int32)) (((0 : Int32) &&& (((-1 : Int32) <<< (((8 : Int32) * (u_rem a (4 : Int32))) &&& 31)) ^^^ (-1 : Int32))) ||| ((b &&& (-1 : Int32)) <<< (((8 : Int32) * (u_rem a (4 : Int32))) &&& 31)))).2.1) ke ma ((f_Mo_save wr wg li cn (a / (4 : Int32)) (((0 : Int32) &&& (((-1 : Int32) <<< (((8 : Int32) * (u_rem a (4 : Int32))) &&& 31)) ^^^ (-1 : Int32))) ||| ((b &&& (-1 : Int32)) <<< (((8 : Int32) * (u_rem a (4 : Int32))) &&& 31)))).2.2.1) ps pn cy t1.2.1 t1.2.2 ((f_Mo_save wr wg li cn (a / (4 : Int32)) (((0 : Int32) &&& (((-1 : Int32) <<< (((8 : Int32) * (u_rem a (4 : Int32))) &&& 31)) ^^^ (-1 : Int32))) ||| ((b &&& (-1 : Int32)) <<< (((8 : Int32) * (u_rem a (4 : Int32))) &&& 31)))).2.2.2) pp px go ne gi gn)) hP hD hS hA [0, 1, 2, 3, 4, 5, 6, 7] rfl [b0, b1, b2, b3, b4, b5, b6, b7] rfl rfl (va_runV (rest := []) ⟨hx, hb, hml, hown, hg⟩ (c_Mo_save l D cI cL b0 b1 b2 b3 b4 b5 b6 b7 _ ev wr wg ke ma li ps pn cy t1.2.1 t1.2.2 cn pp px go ne gi gn (a / (4 : Int32)) (((0 : Int32) &&& (((-1 : Int32) <<< (((8 : Int32) * (u_rem a (4 : Int32))) &&& 31)) ^^^ (-1 : Int32))) ||| ((b &&& (-1 : Int32)) <<< (((8 : Int32) * (u_rem a (4 : Int32))) &&& 31))) (in_reach h20)) ⟨callB_of 2 hg (gw_good m_693) rfl rfl rfl (hg _ m_71) (hg _ m_690) hd_Mo_save ⟨Nat.le_of_ble_eq_true rfl, Nat.le_of_ble_eq_true rfl⟩, hg _ m_692, hg _ m_58⟩ (pw_V hK hN hT hA hP hD hS [0, 1, 2, 3, 4, 5, 6, 7] rfl (by decide) (q0 := 0) (ci := 5) rfl rfl) rfl rfl hl.1 rfl (lv_room (Nat.le_of_ble_eq_true rfl)) d_Mo_store_107 ⟨Nat.le_of_ble_eq_true rfl, Nat.le_of_ble_eq_true rfl⟩) (fun H locs hP hD hS => ?_)
            have hP : va_P D classes (W_Mo cI cL b0 b1 b2 b3 b4 b5 b6 b7 ev ((f_Mo_save wr wg li cn (a / (4 : Int32)) (((0 : Int32) &&& (((-1 : Int32) <<< (((8 : Int32) * (u_rem a (4 : Int32))) &&& 31)) ^^^ (-1 : Int32))) ||| ((b &&& (-1 : Int32)) <<< (((8 : Int32) * (u_rem a (4 : Int32))) &&& 31)))).1) ((f_Mo_save wr wg li cn (a / (4 : Int32)) (((0 : Int32) &&& (((-1 : Int32) <<< (((8 : Int32) * (u_rem a (4 : Int32))) &&& 31)) ^^^ (-1 : Int32))) ||| ((b &&& (-1 : Int32)) <<< (((8 : Int32) * (u_rem a (4 : Int32))) &&& 31)))).2.1) ke ma ((f_Mo_save wr wg li cn (a / (4 : Int32)) (((0 : Int32) &&& (((-1 : Int32) <<< (((8 : Int32) * (u_rem a (4 : Int32))) &&& 31)) ^^^ (-1 : Int32))) ||| ((b &&& (-1 : Int32)) <<< (((8 : Int32) * (u_rem a (4 : Int32))) &&& 31)))).2.2.1) ps pn cy t1.2.1 t1.2.2 ((f_Mo_save wr wg li cn (a / (4 : Int32)) (((0 : Int32) &&& (((-1 : Int32) <<< (((8 : Int32) * (u_rem a (4 : Int32))) &&& 31)) ^^^ (-1 : Int32))) ||| ((b &&& (-1 : Int32)) <<< (((8 : Int32) * (u_rem a (4 : Int32))) &&& 31)))).2.2.2) pp px go ne gi gn) H := hP
            have hD : va_D A (W_Mo cI cL b0 b1 b2 b3 b4 b5 b6 b7 ev ((f_Mo_save wr wg li cn (a / (4 : Int32)) (((0 : Int32) &&& (((-1 : Int32) <<< (((8 : Int32) * (u_rem a (4 : Int32))) &&& 31)) ^^^ (-1 : Int32))) ||| ((b &&& (-1 : Int32)) <<< (((8 : Int32) * (u_rem a (4 : Int32))) &&& 31)))).1) ((f_Mo_save wr wg li cn (a / (4 : Int32)) (((0 : Int32) &&& (((-1 : Int32) <<< (((8 : Int32) * (u_rem a (4 : Int32))) &&& 31)) ^^^ (-1 : Int32))) ||| ((b &&& (-1 : Int32)) <<< (((8 : Int32) * (u_rem a (4 : Int32))) &&& 31)))).2.1) ke ma ((f_Mo_save wr wg li cn (a / (4 : Int32)) (((0 : Int32) &&& (((-1 : Int32) <<< (((8 : Int32) * (u_rem a (4 : Int32))) &&& 31)) ^^^ (-1 : Int32))) ||| ((b &&& (-1 : Int32)) <<< (((8 : Int32) * (u_rem a (4 : Int32))) &&& 31)))).2.2.1) ps pn cy t1.2.1 t1.2.2 ((f_Mo_save wr wg li cn (a / (4 : Int32)) (((0 : Int32) &&& (((-1 : Int32) <<< (((8 : Int32) * (u_rem a (4 : Int32))) &&& 31)) ^^^ (-1 : Int32))) ||| ((b &&& (-1 : Int32)) <<< (((8 : Int32) * (u_rem a (4 : Int32))) &&& 31)))).2.2.2) pp px go ne gi gn) := hD
            generalize e_t2 : f_Mo_save wr wg li cn (a / (4 : Int32)) (((0 : Int32) &&& (((-1 : Int32) <<< (((8 : Int32) * (u_rem a (4 : Int32))) &&& 31)) ^^^ (-1 : Int32))) ||| ((b &&& (-1 : Int32)) <<< (((8 : Int32) * (u_rem a (4 : Int32))) &&& 31))) = t2 at hP hD ⊢
            rw [f_Mo_store_e1 wr wg li ca va cn px go f a b t1 t2 e_t1 e_t2 h2 h20 h25 h48 h59]
            exact W.vret hx hb hr (fun t ht hW => ⟨⟨(), rfl, trivial, by show va_P D classes _ t.heap; rw [ht]; exact hP⟩, hS.F ht⟩) hS.2.2 d_Mo_store_110 hlocks
          · refine lv_ldc hx hb hown (hg _ m_689) d_Mo_store_62 ?_
            refine lv_goto (tgt := 68) hx hb d_Mo_store_64 (by decide) ?_
            refine lv_istore (lv' := [(5, .int _), (4, .int _), (0, .ref _), (1, .int _), (2, .int _), (3, .int _)]) hx hb d_Mo_store_68 hl (by decide) rfl (fun ls hl => ?_)
            refine lv_iload_n hx hb d_Mo_store_70 rfl (lv_at hl 3 rfl) ?_
            refine lv_iconst (v := 2) hx hb d_Mo_store_71 (by decide) ?_
            refine lv_icmp_ne (tgt := 79) hx hb d_Mo_store_72 (by decide) (fun h => absurd h25 h) (fun _ => ?_)
            refine lv_iconst (v := 0) hx hb d_Mo_store_75 (by decide) ?_
            refine lv_goto (tgt := 83) hx hb d_Mo_store_76 (by decide) ?_
            refine lv_istore (lv' := [(6, .int _), (5, .int _), (4, .int _), (0, .ref _), (1, .int _), (2, .int _), (3, .int _)]) hx hb d_Mo_store_83 hl (by decide) rfl (fun ls hl => ?_)
            refine lv_aload_n hx hb d_Mo_store_85 rfl (lv_at hl 3 rfl) ?_
            refine lv_iload_n hx hb d_Mo_store_86 rfl (lv_at hl 5 rfl) ?_
            refine lv_iconst (v := 4) hx hb d_Mo_store_87 (by decide) ?_
            refine lv_idiv hx hb d_Mo_store_88 (by decide) ?_
            refine lv_iload hx hb d_Mo_store_89 (lv_at hl 0 rfl) ?_
            refine lv_iload hx hb d_Mo_store_91 (lv_at hl 1 rfl) ?_
            refine lv_iload hx hb d_Mo_store_93 (lv_at hl 2 rfl) ?_
            refine lv_ishl hx hb d_Mo_store_95 ?_
            refine lv_iconst (v := -1) hx hb d_Mo_store_96 (by decide) ?_
            refine lv_ixor hx hb d_Mo_store_97 ?_
            refine lv_iand hx hb d_Mo_store_98 ?_
            refine lv_iload_n hx hb d_Mo_store_99 rfl (lv_at hl 6 rfl) ?_
            refine lv_iload hx hb d_Mo_store_100 (lv_at hl 1 rfl) ?_
            refine lv_iand hx hb d_Mo_store_102 ?_
            refine lv_iload hx hb d_Mo_store_103 (lv_at hl 2 rfl) ?_
            refine lv_ishl hx hb d_Mo_store_105 ?_
            refine lv_ior hx hb d_Mo_store_106 ?_
            refine cj_v (wc := (W_Mo cI cL b0 b1 b2 b3 b4 b5 b6 b7 ev wr wg ke ma li ps pn cy t1.2.1 t1.2.2 cn pp px go ne gi gn)) (w1 := (W_Mo cI cL b0 b1 b2 b3 b4 b5 b6 b7 ev ((f_Mo_save wr wg li cn (a / (4 : Int32)) (((0 : Int32) &&& (((65535 : Int32) <<< (((8 : Int32) * (u_rem a (4 : Int32))) &&& 31)) ^^^ (-1 : Int32))) ||| ((b &&& (65535 : Int32)) <<< (((8 : Int32) * (u_rem a (4 : Int32))) &&& 31)))).1) ((f_Mo_save wr wg li cn (a / (4 : Int32)) (((0 : Int32) &&& (((65535 : Int32) <<< (((8 : Int32) * (u_rem a (4 : Int32))) &&& 31)) ^^^ (-1 : Int32))) ||| ((b &&& (65535 : Int32)) <<< (((8 : Int32) * (u_rem a (4 : Int32))) &&& 31)))).2.1) ke ma ((f_Mo_save wr wg li cn (a / (4 : Int32)) (((0 : Int32) &&& (((65535 : Int32) <<< (((8 : Int32) * (u_rem a (4 : Int32))) &&& 31)) ^^^ (-1 : Int32))) ||| ((b &&& (65535 : Int32)) <<< (((8 : Int32) * (u_rem a (4 : Int32))) &&& 31)))).2.2.1) ps pn cy t1.2.1 t1.2.2 ((f_Mo_save wr wg li cn (a / (4 : Int32)) (((0 : Int32) &&& (((65535 : Int32) <<< (((8 : Int32) * (u_rem a (4 : Int32))) &&& 31)) ^^^ (-1 : Int32))) ||| ((b &&& (65535 : Int32)) <<< (((8 : Int32) * (u_rem a (4 : Int32))) &&& 31)))).2.2.2) pp px go ne gi gn)) hP hD hS hA [0, 1, 2, 3, 4, 5, 6, 7] rfl [b0, b1, b2, b3, b4, b5, b6, b7] rfl rfl (va_runV (rest := []) ⟨hx, hb, hml, hown, hg⟩ (c_Mo_save l D cI cL b0 b1 b2 b3 b4 b5 b6 b7 _ ev wr wg ke ma li ps pn cy t1.2.1 t1.2.2 cn pp px go ne gi gn (a / (4 : Int32)) (((0 : Int32) &&& (((65535 : Int32) <<< (((8 : Int32) * (u_rem a (4 : Int32))) &&& 31)) ^^^ (-1 : Int32))) ||| ((b &&& (65535 : Int32)) <<< (((8 : Int32) * (u_rem a (4 : Int32))) &&& 31))) (in_reach h20)) ⟨callB_of 2 hg (gw_good m_693) rfl rfl rfl (hg _ m_71) (hg _ m_690) hd_Mo_save ⟨Nat.le_of_ble_eq_true rfl, Nat.le_of_ble_eq_true rfl⟩, hg _ m_692, hg _ m_58⟩ (pw_V hK hN hT hA hP hD hS [0, 1, 2, 3, 4, 5, 6, 7] rfl (by decide) (q0 := 0) (ci := 5) rfl rfl) rfl rfl hl.1 rfl (lv_room (Nat.le_of_ble_eq_true rfl)) d_Mo_store_107 ⟨Nat.le_of_ble_eq_true rfl, Nat.le_of_ble_eq_true rfl⟩) (fun H locs hP hD hS => ?_)
            have hP : va_P D classes (W_Mo cI cL b0 b1 b2 b3 b4 b5 b6 b7 ev ((f_Mo_save wr wg li cn (a / (4 : Int32)) (((0 : Int32) &&& (((65535 : Int32) <<< (((8 : Int32) * (u_rem a (4 : Int32))) &&& 31)) ^^^ (-1 : Int32))) ||| ((b &&& (65535 : Int32)) <<< (((8 : Int32) * (u_rem a (4 : Int32))) &&& 31)))).1) ((f_Mo_save wr wg li cn (a / (4 : Int32)) (((0 : Int32) &&& (((65535 : Int32) <<< (((8 : Int32) * (u_rem a (4 : Int32))) &&& 31)) ^^^ (-1 : Int32))) ||| ((b &&& (65535 : Int32)) <<< (((8 : Int32) * (u_rem a (4 : Int32))) &&& 31)))).2.1) ke ma ((f_Mo_save wr wg li cn (a / (4 : Int32)) (((0 : Int32) &&& (((65535 : Int32) <<< (((8 : Int32) * (u_rem a (4 : Int32))) &&& 31)) ^^^ (-1 : Int32))) ||| ((b &&& (65535 : Int32)) <<< (((8 : Int32) * (u_rem a (4 : Int32))) &&& 31)))).2.2.1) ps pn cy t1.2.1 t1.2.2 ((f_Mo_save wr wg li cn (a / (4 : Int32)) (((0 : Int32) &&& (((65535 : Int32) <<< (((8 : Int32) * (u_rem a (4 : Int32))) &&& 31)) ^^^ (-1 : Int32))) ||| ((b &&& (65535 : Int32)) <<< (((8 : Int32) * (u_rem a (4 : Int32))) &&& 31)))).2.2.2) pp px go ne gi gn) H := hP
            have hD : va_D A (W_Mo cI cL b0 b1 b2 b3 b4 b5 b6 b7 ev ((f_Mo_save wr wg li cn (a / (4 : Int32)) (((0 : Int32) &&& (((65535 : Int32) <<< (((8 : Int32) * (u_rem a (4 : Int32))) &&& 31)) ^^^ (-1 : Int32))) ||| ((b &&& (65535 : Int32)) <<< (((8 : Int32) * (u_rem a (4 : Int32))) &&& 31)))).1) ((f_Mo_save wr wg li cn (a / (4 : Int32)) (((0 : Int32) &&& (((65535 : Int32) <<< (((8 : Int32) * (u_rem a (4 : Int32))) &&& 31)) ^^^ (-1 : Int32))) ||| ((b &&& (65535 : Int32)) <<< (((8 : Int32) * (u_rem a (4 : Int32))) &&& 31)))).2.1) ke ma ((f_Mo_save wr wg li cn (a / (4 : Int32)) (((0 : Int32) &&& (((65535 : Int32) <<< (((8 : Int32) * (u_rem a (4 : Int32))) &&& 31)) ^^^ (-1 : Int32))) ||| ((b &&& (65535 : Int32)) <<< (((8 : Int32) * (u_rem a (4 : Int32))) &&& 31)))).2.2.1) ps pn cy t1.2.1 t1.2.2 ((f_Mo_save wr wg li cn (a / (4 : Int32)) (((0 : Int32) &&& (((65535 : Int32) <<< (((8 : Int32) * (u_rem a (4 : Int32))) &&& 31)) ^^^ (-1 : Int32))) ||| ((b &&& (65535 : Int32)) <<< (((8 : Int32) * (u_rem a (4 : Int32))) &&& 31)))).2.2.2) pp px go ne gi gn) := hD
            generalize e_t3 : f_Mo_save wr wg li cn (a / (4 : Int32)) (((0 : Int32) &&& (((65535 : Int32) <<< (((8 : Int32) * (u_rem a (4 : Int32))) &&& 31)) ^^^ (-1 : Int32))) ||| ((b &&& (65535 : Int32)) <<< (((8 : Int32) * (u_rem a (4 : Int32))) &&& 31))) = t3 at hP hD ⊢
            rw [f_Mo_store_e2 wr wg li ca va cn px go f a b t1 t3 e_t1 e_t3 h2 h20 h25 h48 h59]
            exact W.vret hx hb hr (fun t ht hW => ⟨⟨(), rfl, trivial, by show va_P D classes _ t.heap; rw [ht]; exact hP⟩, hS.F ht⟩) hS.2.2 d_Mo_store_110 hlocks
        · refine lv_sipush (v := 255) hx hb d_Mo_store_51 (by decide) ?_
          refine lv_goto (tgt := 68) hx hb d_Mo_store_54 (by decide) ?_
          refine lv_istore (lv' := [(5, .int _), (4, .int _), (0, .ref _), (1, .int _), (2, .int _), (3, .int _)]) hx hb d_Mo_store_68 hl (by decide) rfl (fun ls hl => ?_)
          refine lv_iload_n hx hb d_Mo_store_70 rfl (lv_at hl 3 rfl) ?_
          refine lv_iconst (v := 2) hx hb d_Mo_store_71 (by decide) ?_
          refine lv_icmp_ne (tgt := 79) hx hb d_Mo_store_72 (by decide) (fun h => absurd h25 h) (fun _ => ?_)
          refine lv_iconst (v := 0) hx hb d_Mo_store_75 (by decide) ?_
          refine lv_goto (tgt := 83) hx hb d_Mo_store_76 (by decide) ?_
          refine lv_istore (lv' := [(6, .int _), (5, .int _), (4, .int _), (0, .ref _), (1, .int _), (2, .int _), (3, .int _)]) hx hb d_Mo_store_83 hl (by decide) rfl (fun ls hl => ?_)
          refine lv_aload_n hx hb d_Mo_store_85 rfl (lv_at hl 3 rfl) ?_
          refine lv_iload_n hx hb d_Mo_store_86 rfl (lv_at hl 5 rfl) ?_
          refine lv_iconst (v := 4) hx hb d_Mo_store_87 (by decide) ?_
          refine lv_idiv hx hb d_Mo_store_88 (by decide) ?_
          refine lv_iload hx hb d_Mo_store_89 (lv_at hl 0 rfl) ?_
          refine lv_iload hx hb d_Mo_store_91 (lv_at hl 1 rfl) ?_
          refine lv_iload hx hb d_Mo_store_93 (lv_at hl 2 rfl) ?_
          refine lv_ishl hx hb d_Mo_store_95 ?_
          refine lv_iconst (v := -1) hx hb d_Mo_store_96 (by decide) ?_
          refine lv_ixor hx hb d_Mo_store_97 ?_
          refine lv_iand hx hb d_Mo_store_98 ?_
          refine lv_iload_n hx hb d_Mo_store_99 rfl (lv_at hl 6 rfl) ?_
          refine lv_iload hx hb d_Mo_store_100 (lv_at hl 1 rfl) ?_
          refine lv_iand hx hb d_Mo_store_102 ?_
          refine lv_iload hx hb d_Mo_store_103 (lv_at hl 2 rfl) ?_
          refine lv_ishl hx hb d_Mo_store_105 ?_
          refine lv_ior hx hb d_Mo_store_106 ?_
          refine cj_v (wc := (W_Mo cI cL b0 b1 b2 b3 b4 b5 b6 b7 ev wr wg ke ma li ps pn cy t1.2.1 t1.2.2 cn pp px go ne gi gn)) (w1 := (W_Mo cI cL b0 b1 b2 b3 b4 b5 b6 b7 ev ((f_Mo_save wr wg li cn (a / (4 : Int32)) (((0 : Int32) &&& (((255 : Int32) <<< (((8 : Int32) * (u_rem a (4 : Int32))) &&& 31)) ^^^ (-1 : Int32))) ||| ((b &&& (255 : Int32)) <<< (((8 : Int32) * (u_rem a (4 : Int32))) &&& 31)))).1) ((f_Mo_save wr wg li cn (a / (4 : Int32)) (((0 : Int32) &&& (((255 : Int32) <<< (((8 : Int32) * (u_rem a (4 : Int32))) &&& 31)) ^^^ (-1 : Int32))) ||| ((b &&& (255 : Int32)) <<< (((8 : Int32) * (u_rem a (4 : Int32))) &&& 31)))).2.1) ke ma ((f_Mo_save wr wg li cn (a / (4 : Int32)) (((0 : Int32) &&& (((255 : Int32) <<< (((8 : Int32) * (u_rem a (4 : Int32))) &&& 31)) ^^^ (-1 : Int32))) ||| ((b &&& (255 : Int32)) <<< (((8 : Int32) * (u_rem a (4 : Int32))) &&& 31)))).2.2.1) ps pn cy t1.2.1 t1.2.2 ((f_Mo_save wr wg li cn (a / (4 : Int32)) (((0 : Int32) &&& (((255 : Int32) <<< (((8 : Int32) * (u_rem a (4 : Int32))) &&& 31)) ^^^ (-1 : Int32))) ||| ((b &&& (255 : Int32)) <<< (((8 : Int32) * (u_rem a (4 : Int32))) &&& 31)))).2.2.2) pp px go ne gi gn)) hP hD hS hA [0, 1, 2, 3, 4, 5, 6, 7] rfl [b0, b1, b2, b3, b4, b5, b6, b7] rfl rfl (va_runV (rest := []) ⟨hx, hb, hml, hown, hg⟩ (c_Mo_save l D cI cL b0 b1 b2 b3 b4 b5 b6 b7 _ ev wr wg ke ma li ps pn cy t1.2.1 t1.2.2 cn pp px go ne gi gn (a / (4 : Int32)) (((0 : Int32) &&& (((255 : Int32) <<< (((8 : Int32) * (u_rem a (4 : Int32))) &&& 31)) ^^^ (-1 : Int32))) ||| ((b &&& (255 : Int32)) <<< (((8 : Int32) * (u_rem a (4 : Int32))) &&& 31))) (in_reach h20)) ⟨callB_of 2 hg (gw_good m_693) rfl rfl rfl (hg _ m_71) (hg _ m_690) hd_Mo_save ⟨Nat.le_of_ble_eq_true rfl, Nat.le_of_ble_eq_true rfl⟩, hg _ m_692, hg _ m_58⟩ (pw_V hK hN hT hA hP hD hS [0, 1, 2, 3, 4, 5, 6, 7] rfl (by decide) (q0 := 0) (ci := 5) rfl rfl) rfl rfl hl.1 rfl (lv_room (Nat.le_of_ble_eq_true rfl)) d_Mo_store_107 ⟨Nat.le_of_ble_eq_true rfl, Nat.le_of_ble_eq_true rfl⟩) (fun H locs hP hD hS => ?_)
          have hP : va_P D classes (W_Mo cI cL b0 b1 b2 b3 b4 b5 b6 b7 ev ((f_Mo_save wr wg li cn (a / (4 : Int32)) (((0 : Int32) &&& (((255 : Int32) <<< (((8 : Int32) * (u_rem a (4 : Int32))) &&& 31)) ^^^ (-1 : Int32))) ||| ((b &&& (255 : Int32)) <<< (((8 : Int32) * (u_rem a (4 : Int32))) &&& 31)))).1) ((f_Mo_save wr wg li cn (a / (4 : Int32)) (((0 : Int32) &&& (((255 : Int32) <<< (((8 : Int32) * (u_rem a (4 : Int32))) &&& 31)) ^^^ (-1 : Int32))) ||| ((b &&& (255 : Int32)) <<< (((8 : Int32) * (u_rem a (4 : Int32))) &&& 31)))).2.1) ke ma ((f_Mo_save wr wg li cn (a / (4 : Int32)) (((0 : Int32) &&& (((255 : Int32) <<< (((8 : Int32) * (u_rem a (4 : Int32))) &&& 31)) ^^^ (-1 : Int32))) ||| ((b &&& (255 : Int32)) <<< (((8 : Int32) * (u_rem a (4 : Int32))) &&& 31)))).2.2.1) ps pn cy t1.2.1 t1.2.2 ((f_Mo_save wr wg li cn (a / (4 : Int32)) (((0 : Int32) &&& (((255 : Int32) <<< (((8 : Int32) * (u_rem a (4 : Int32))) &&& 31)) ^^^ (-1 : Int32))) ||| ((b &&& (255 : Int32)) <<< (((8 : Int32) * (u_rem a (4 : Int32))) &&& 31)))).2.2.2) pp px go ne gi gn) H := hP
          have hD : va_D A (W_Mo cI cL b0 b1 b2 b3 b4 b5 b6 b7 ev ((f_Mo_save wr wg li cn (a / (4 : Int32)) (((0 : Int32) &&& (((255 : Int32) <<< (((8 : Int32) * (u_rem a (4 : Int32))) &&& 31)) ^^^ (-1 : Int32))) ||| ((b &&& (255 : Int32)) <<< (((8 : Int32) * (u_rem a (4 : Int32))) &&& 31)))).1) ((f_Mo_save wr wg li cn (a / (4 : Int32)) (((0 : Int32) &&& (((255 : Int32) <<< (((8 : Int32) * (u_rem a (4 : Int32))) &&& 31)) ^^^ (-1 : Int32))) ||| ((b &&& (255 : Int32)) <<< (((8 : Int32) * (u_rem a (4 : Int32))) &&& 31)))).2.1) ke ma ((f_Mo_save wr wg li cn (a / (4 : Int32)) (((0 : Int32) &&& (((255 : Int32) <<< (((8 : Int32) * (u_rem a (4 : Int32))) &&& 31)) ^^^ (-1 : Int32))) ||| ((b &&& (255 : Int32)) <<< (((8 : Int32) * (u_rem a (4 : Int32))) &&& 31)))).2.2.1) ps pn cy t1.2.1 t1.2.2 ((f_Mo_save wr wg li cn (a / (4 : Int32)) (((0 : Int32) &&& (((255 : Int32) <<< (((8 : Int32) * (u_rem a (4 : Int32))) &&& 31)) ^^^ (-1 : Int32))) ||| ((b &&& (255 : Int32)) <<< (((8 : Int32) * (u_rem a (4 : Int32))) &&& 31)))).2.2.2) pp px go ne gi gn) := hD
          generalize e_t4 : f_Mo_save wr wg li cn (a / (4 : Int32)) (((0 : Int32) &&& (((255 : Int32) <<< (((8 : Int32) * (u_rem a (4 : Int32))) &&& 31)) ^^^ (-1 : Int32))) ||| ((b &&& (255 : Int32)) <<< (((8 : Int32) * (u_rem a (4 : Int32))) &&& 31))) = t4 at hP hD ⊢
          rw [f_Mo_store_e3 wr wg li ca va cn px go f a b t1 t4 e_t1 e_t4 h2 h20 h25 h48]
          exact W.vret hx hb hr (fun t ht hW => ⟨⟨(), rfl, trivial, by show va_P D classes _ t.heap; rw [ht]; exact hP⟩, hS.F ht⟩) hS.2.2 d_Mo_store_110 hlocks
      · refine lv_aload_n hx hb d_Mo_store_28 rfl (lv_at hl 0 rfl) ?_
        refine lv_iconst (v := 1) hx hb d_Mo_store_29 (by decide) ?_
        refine lv_iload_n hx hb d_Mo_store_30 rfl (lv_at hl 2 rfl) ?_
        refine lv_iconst (v := 4) hx hb d_Mo_store_31 (by decide) ?_
        refine lv_idiv hx hb d_Mo_store_32 (by decide) ?_
        refine cj_i (wc := (W_Mo cI cL b0 b1 b2 b3 b4 b5 b6 b7 ev wr wg ke ma li ps pn cy t1.2.1 t1.2.2 cn pp px go ne gi gn)) (w1 := (W_Mo cI cL b0 b1 b2 b3 b4 b5 b6 b7 ev wr ((f_Mo_fetch wr wg li t1.2.1 t1.2.2 cn go (1 : Int32) (a / (4 : Int32))).2.1) ke ma ((f_Mo_fetch wr wg li t1.2.1 t1.2.2 cn go (1 : Int32) (a / (4 : Int32))).2.2.1) ps pn cy ((f_Mo_fetch wr wg li t1.2.1 t1.2.2 cn go (1 : Int32) (a / (4 : Int32))).2.2.2.1) ((f_Mo_fetch wr wg li t1.2.1 t1.2.2 cn go (1 : Int32) (a / (4 : Int32))).2.2.2.2.1) ((f_Mo_fetch wr wg li t1.2.1 t1.2.2 cn go (1 : Int32) (a / (4 : Int32))).2.2.2.2.2.1) pp px ((f_Mo_fetch wr wg li t1.2.1 t1.2.2 cn go (1 : Int32) (a / (4 : Int32))).2.2.2.2.2.2) ne gi gn)) hP hD hS hA [0, 1, 2, 3, 4, 5, 6, 7] rfl [b0, b1, b2, b3, b4, b5, b6, b7] rfl rfl (va_runV (rest := []) ⟨hx, hb, hml, hown, hg⟩ (c_Mo_fetch l D cI cL b0 b1 b2 b3 b4 b5 b6 b7 _ ev wr wg ke ma li ps pn cy t1.2.1 t1.2.2 cn pp px go ne gi gn (1 : Int32) (a / (4 : Int32)) (vp_ofb (by decide)) (in_reach h20)) ⟨callB_of 2 hg (gw_good m_599) rfl rfl rfl (hg _ m_71) (hg _ m_596) hd_Mo_fetch ⟨Nat.le_of_ble_eq_true rfl, Nat.le_of_ble_eq_true rfl⟩, hg _ m_598, hg _ m_41⟩ (pw_V hK hN hT hA hP hD hS [0, 1, 2, 3, 4, 5, 6, 7] rfl (by decide) (q0 := 0) (ci := 5) rfl rfl) rfl rfl hl.1 rfl (lv_room (Nat.le_of_ble_eq_true rfl)) d_Mo_store_33 ⟨Nat.le_of_ble_eq_true rfl, Nat.le_of_ble_eq_true rfl⟩) (fun H locs hP hD hS => ?_)
        have hP : va_P D classes (W_Mo cI cL b0 b1 b2 b3 b4 b5 b6 b7 ev wr ((f_Mo_fetch wr wg li t1.2.1 t1.2.2 cn go (1 : Int32) (a / (4 : Int32))).2.1) ke ma ((f_Mo_fetch wr wg li t1.2.1 t1.2.2 cn go (1 : Int32) (a / (4 : Int32))).2.2.1) ps pn cy ((f_Mo_fetch wr wg li t1.2.1 t1.2.2 cn go (1 : Int32) (a / (4 : Int32))).2.2.2.1) ((f_Mo_fetch wr wg li t1.2.1 t1.2.2 cn go (1 : Int32) (a / (4 : Int32))).2.2.2.2.1) ((f_Mo_fetch wr wg li t1.2.1 t1.2.2 cn go (1 : Int32) (a / (4 : Int32))).2.2.2.2.2.1) pp px ((f_Mo_fetch wr wg li t1.2.1 t1.2.2 cn go (1 : Int32) (a / (4 : Int32))).2.2.2.2.2.2) ne gi gn) H := hP
        have hD : va_D A (W_Mo cI cL b0 b1 b2 b3 b4 b5 b6 b7 ev wr ((f_Mo_fetch wr wg li t1.2.1 t1.2.2 cn go (1 : Int32) (a / (4 : Int32))).2.1) ke ma ((f_Mo_fetch wr wg li t1.2.1 t1.2.2 cn go (1 : Int32) (a / (4 : Int32))).2.2.1) ps pn cy ((f_Mo_fetch wr wg li t1.2.1 t1.2.2 cn go (1 : Int32) (a / (4 : Int32))).2.2.2.1) ((f_Mo_fetch wr wg li t1.2.1 t1.2.2 cn go (1 : Int32) (a / (4 : Int32))).2.2.2.2.1) ((f_Mo_fetch wr wg li t1.2.1 t1.2.2 cn go (1 : Int32) (a / (4 : Int32))).2.2.2.2.2.1) pp px ((f_Mo_fetch wr wg li t1.2.1 t1.2.2 cn go (1 : Int32) (a / (4 : Int32))).2.2.2.2.2.2) ne gi gn) := hD
        generalize e_t5 : f_Mo_fetch wr wg li t1.2.1 t1.2.2 cn go (1 : Int32) (a / (4 : Int32)) = t5 at hP hD ⊢
        refine lv_if_eq (tgt := 110) hx hb d_Mo_store_36 (by decide) (fun h36 => ?_) (fun h36 => ?_)
        · rw [f_Mo_store_e4 wr wg li ca va cn px go f a b t1 t5 e_t1 e_t5 h2 h20 h25 h36]
          exact W.vret hx hb hr (fun t ht hW => ⟨⟨(), rfl, trivial, by show va_P D classes _ t.heap; rw [ht]; exact hP⟩, hS.F ht⟩) hS.2.2 d_Mo_store_110 hlocks
        · refine lv_bipush (v := 8) hx hb d_Mo_store_39 (by decide) ?_
          refine lv_iload_n hx hb d_Mo_store_41 rfl (lv_at hl 2 rfl) ?_
          refine lv_iconst (v := 4) hx hb d_Mo_store_42 (by decide) ?_
          refine lv_irem hx hb d_Mo_store_43 (by decide) ?_
          refine lv_imul hx hb d_Mo_store_44 ?_
          refine lv_istore (lv' := [(4, .int _), (0, .ref _), (1, .int _), (2, .int _), (3, .int _)]) hx hb d_Mo_store_45 hl (by decide) rfl (fun ls hl => ?_)
          refine lv_iload_n hx hb d_Mo_store_47 rfl (lv_at hl 2 rfl) ?_
          refine lv_if_ne (tgt := 57) hx hb d_Mo_store_48 (by decide) (fun h48 => ?_) (fun h48 => ?_)
          · refine lv_iload_n hx hb d_Mo_store_57 rfl (lv_at hl 2 rfl) ?_
            refine lv_iconst (v := 1) hx hb d_Mo_store_58 (by decide) ?_
            refine lv_icmp_ne (tgt := 67) hx hb d_Mo_store_59 (by decide) (fun h59 => ?_) (fun h59 => ?_)
            · refine lv_iconst (v := -1) hx hb d_Mo_store_67 (by decide) ?_
              refine lv_istore (lv' := [(5, .int _), (4, .int _), (0, .ref _), (1, .int _), (2, .int _), (3, .int _)]) hx hb d_Mo_store_68 hl (by decide) rfl (fun ls hl => ?_)
              refine lv_iload_n hx hb d_Mo_store_70 rfl (lv_at hl 3 rfl) ?_
              refine lv_iconst (v := 2) hx hb d_Mo_store_71 (by decide) ?_
              refine lv_icmp_ne (tgt := 79) hx hb d_Mo_store_72 (by decide) (fun _ => ?_) (fun h => absurd h h25)
              refine lv_aload_n hx hb d_Mo_store_79 rfl (lv_at hl 2 rfl) ?_
              refine va_get (ci := 5) (C := R_Mo) (T := F_Mo) (N := 18) hx hb hg in_Mo hown hK hP 0 rfl rfl 14 (by decide) (hg _ m_517) (fun _ h => h) rfl d_Mo_store_80 ?_
              refine lv_istore (lv' := [(6, .int _), (5, .int _), (4, .int _), (0, .ref _), (1, .int _), (2, .int _), (3, .int _)]) hx hb d_Mo_store_83 hl (by decide) rfl (fun ls hl => ?_)
              refine lv_aload_n hx hb d_Mo_store_85 rfl (lv_at hl 3 rfl) ?_
              refine lv_iload_n hx hb d_Mo_store_86 rfl (lv_at hl 5 rfl) ?_
              refine lv_iconst (v := 4) hx hb d_Mo_store_87 (by decide) ?_
              refine lv_idiv hx hb d_Mo_store_88 (by decide) ?_
              refine lv_iload hx hb d_Mo_store_89 (lv_at hl 0 rfl) ?_
              refine lv_iload hx hb d_Mo_store_91 (lv_at hl 1 rfl) ?_
              refine lv_iload hx hb d_Mo_store_93 (lv_at hl 2 rfl) ?_
              refine lv_ishl hx hb d_Mo_store_95 ?_
              refine lv_iconst (v := -1) hx hb d_Mo_store_96 (by decide) ?_
              refine lv_ixor hx hb d_Mo_store_97 ?_
              refine lv_iand hx hb d_Mo_store_98 ?_
              refine lv_iload_n hx hb d_Mo_store_99 rfl (lv_at hl 6 rfl) ?_
              refine lv_iload hx hb d_Mo_store_100 (lv_at hl 1 rfl) ?_
              refine lv_iand hx hb d_Mo_store_102 ?_
              refine lv_iload hx hb d_Mo_store_103 (lv_at hl 2 rfl) ?_
              refine lv_ishl hx hb d_Mo_store_105 ?_
              refine lv_ior hx hb d_Mo_store_106 ?_
              refine cj_v (wc := (W_Mo cI cL b0 b1 b2 b3 b4 b5 b6 b7 ev wr t5.2.1 ke ma t5.2.2.1 ps pn cy t5.2.2.2.1 t5.2.2.2.2.1 t5.2.2.2.2.2.1 pp px t5.2.2.2.2.2.2 ne gi gn)) (w1 := (W_Mo cI cL b0 b1 b2 b3 b4 b5 b6 b7 ev ((f_Mo_save wr t5.2.1 t5.2.2.1 t5.2.2.2.2.2.1 (a / (4 : Int32)) ((t5.2.2.2.2.2.2 &&& (((-1 : Int32) <<< (((8 : Int32) * (u_rem a (4 : Int32))) &&& 31)) ^^^ (-1 : Int32))) ||| ((b &&& (-1 : Int32)) <<< (((8 : Int32) * (u_rem a (4 : Int32))) &&& 31)))).1) ((f_Mo_save wr t5.2.1 t5.2.2.1 t5.2.2.2.2.2.1 (a / (4 : Int32)) ((t5.2.2.2.2.2.2 &&& (((-1 : Int32) <<< (((8 : Int32) * (u_rem a (4 : Int32))) &&& 31)) ^^^ (-1 : Int32))) ||| ((b &&& (-1 : Int32)) <<< (((8 : Int32) * (u_rem a (4 : Int32))) &&& 31)))).2.1) ke ma ((f_Mo_save wr t5.2.1 t5.2.2.1 t5.2.2.2.2.2.1 (a / (4 : Int32)) ((t5.2.2.2.2.2.2 &&& (((-1 : Int32) <<< (((8 : Int32) * (u_rem a (4 : Int32))) &&& 31)) ^^^ (-1 : Int32))) ||| ((b &&& (-1 : Int32)) <<< (((8 : Int32) * (u_rem a (4 : Int32))) &&& 31)))).2.2.1) ps pn cy t5.2.2.2.1 t5.2.2.2.2.1 ((f_Mo_save wr t5.2.1 t5.2.2.1 t5.2.2.2.2.2.1 (a / (4 : Int32)) ((t5.2.2.2.2.2.2 &&& (((-1 : Int32) <<< (((8 : Int32) * (u_rem a (4 : Int32))) &&& 31)) ^^^ (-1 : Int32))) ||| ((b &&& (-1 : Int32)) <<< (((8 : Int32) * (u_rem a (4 : Int32))) &&& 31)))).2.2.2) pp px t5.2.2.2.2.2.2 ne gi gn)) hP hD hS hA [0, 1, 2, 3, 4, 5, 6, 7] rfl [b0, b1, b2, b3, b4, b5, b6, b7] rfl rfl (va_runV (rest := []) ⟨hx, hb, hml, hown, hg⟩ (c_Mo_save l D cI cL b0 b1 b2 b3 b4 b5 b6 b7 _ ev wr t5.2.1 ke ma t5.2.2.1 ps pn cy t5.2.2.2.1 t5.2.2.2.2.1 t5.2.2.2.2.2.1 pp px t5.2.2.2.2.2.2 ne gi gn (a / (4 : Int32)) ((t5.2.2.2.2.2.2 &&& (((-1 : Int32) <<< (((8 : Int32) * (u_rem a (4 : Int32))) &&& 31)) ^^^ (-1 : Int32))) ||| ((b &&& (-1 : Int32)) <<< (((8 : Int32) * (u_rem a (4 : Int32))) &&& 31))) (in_reach h20)) ⟨callB_of 2 hg (gw_good m_693) rfl rfl rfl (hg _ m_71) (hg _ m_690) hd_Mo_save ⟨Nat.le_of_ble_eq_true rfl, Nat.le_of_ble_eq_true rfl⟩, hg _ m_692, hg _ m_58⟩ (pw_V hK hN hT hA hP hD hS [0, 1, 2, 3, 4, 5, 6, 7] rfl (by decide) (q0 := 0) (ci := 5) rfl rfl) rfl rfl hl.1 rfl (lv_room (Nat.le_of_ble_eq_true rfl)) d_Mo_store_107 ⟨Nat.le_of_ble_eq_true rfl, Nat.le_of_ble_eq_true rfl⟩) (fun H locs hP hD hS => ?_)
              have hP : va_P D classes (W_Mo cI cL b0 b1 b2 b3 b4 b5 b6 b7 ev ((f_Mo_save wr t5.2.1 t5.2.2.1 t5.2.2.2.2.2.1 (a / (4 : Int32)) ((t5.2.2.2.2.2.2 &&& (((-1 : Int32) <<< (((8 : Int32) * (u_rem a (4 : Int32))) &&& 31)) ^^^ (-1 : Int32))) ||| ((b &&& (-1 : Int32)) <<< (((8 : Int32) * (u_rem a (4 : Int32))) &&& 31)))).1) ((f_Mo_save wr t5.2.1 t5.2.2.1 t5.2.2.2.2.2.1 (a / (4 : Int32)) ((t5.2.2.2.2.2.2 &&& (((-1 : Int32) <<< (((8 : Int32) * (u_rem a (4 : Int32))) &&& 31)) ^^^ (-1 : Int32))) ||| ((b &&& (-1 : Int32)) <<< (((8 : Int32) * (u_rem a (4 : Int32))) &&& 31)))).2.1) ke ma ((f_Mo_save wr t5.2.1 t5.2.2.1 t5.2.2.2.2.2.1 (a / (4 : Int32)) ((t5.2.2.2.2.2.2 &&& (((-1 : Int32) <<< (((8 : Int32) * (u_rem a (4 : Int32))) &&& 31)) ^^^ (-1 : Int32))) ||| ((b &&& (-1 : Int32)) <<< (((8 : Int32) * (u_rem a (4 : Int32))) &&& 31)))).2.2.1) ps pn cy t5.2.2.2.1 t5.2.2.2.2.1 ((f_Mo_save wr t5.2.1 t5.2.2.1 t5.2.2.2.2.2.1 (a / (4 : Int32)) ((t5.2.2.2.2.2.2 &&& (((-1 : Int32) <<< (((8 : Int32) * (u_rem a (4 : Int32))) &&& 31)) ^^^ (-1 : Int32))) ||| ((b &&& (-1 : Int32)) <<< (((8 : Int32) * (u_rem a (4 : Int32))) &&& 31)))).2.2.2) pp px t5.2.2.2.2.2.2 ne gi gn) H := hP
              have hD : va_D A (W_Mo cI cL b0 b1 b2 b3 b4 b5 b6 b7 ev ((f_Mo_save wr t5.2.1 t5.2.2.1 t5.2.2.2.2.2.1 (a / (4 : Int32)) ((t5.2.2.2.2.2.2 &&& (((-1 : Int32) <<< (((8 : Int32) * (u_rem a (4 : Int32))) &&& 31)) ^^^ (-1 : Int32))) ||| ((b &&& (-1 : Int32)) <<< (((8 : Int32) * (u_rem a (4 : Int32))) &&& 31)))).1) ((f_Mo_save wr t5.2.1 t5.2.2.1 t5.2.2.2.2.2.1 (a / (4 : Int32)) ((t5.2.2.2.2.2.2 &&& (((-1 : Int32) <<< (((8 : Int32) * (u_rem a (4 : Int32))) &&& 31)) ^^^ (-1 : Int32))) ||| ((b &&& (-1 : Int32)) <<< (((8 : Int32) * (u_rem a (4 : Int32))) &&& 31)))).2.1) ke ma ((f_Mo_save wr t5.2.1 t5.2.2.1 t5.2.2.2.2.2.1 (a / (4 : Int32)) ((t5.2.2.2.2.2.2 &&& (((-1 : Int32) <<< (((8 : Int32) * (u_rem a (4 : Int32))) &&& 31)) ^^^ (-1 : Int32))) ||| ((b &&& (-1 : Int32)) <<< (((8 : Int32) * (u_rem a (4 : Int32))) &&& 31)))).2.2.1) ps pn cy t5.2.2.2.1 t5.2.2.2.2.1 ((f_Mo_save wr t5.2.1 t5.2.2.1 t5.2.2.2.2.2.1 (a / (4 : Int32)) ((t5.2.2.2.2.2.2 &&& (((-1 : Int32) <<< (((8 : Int32) * (u_rem a (4 : Int32))) &&& 31)) ^^^ (-1 : Int32))) ||| ((b &&& (-1 : Int32)) <<< (((8 : Int32) * (u_rem a (4 : Int32))) &&& 31)))).2.2.2) pp px t5.2.2.2.2.2.2 ne gi gn) := hD
              generalize e_t6 : f_Mo_save wr t5.2.1 t5.2.2.1 t5.2.2.2.2.2.1 (a / (4 : Int32)) ((t5.2.2.2.2.2.2 &&& (((-1 : Int32) <<< (((8 : Int32) * (u_rem a (4 : Int32))) &&& 31)) ^^^ (-1 : Int32))) ||| ((b &&& (-1 : Int32)) <<< (((8 : Int32) * (u_rem a (4 : Int32))) &&& 31))) = t6 at hP hD ⊢
              rw [f_Mo_store_e5 wr wg li ca va cn px go f a b t1 t5 t6 e_t1 e_t5 e_t6 h2 h20 h25 h36 h48 h59]
              exact W.vret hx hb hr (fun t ht hW => ⟨⟨(), rfl, trivial, by show va_P D classes _ t.heap; rw [ht]; exact hP⟩, hS.F ht⟩) hS.2.2 d_Mo_store_110 hlocks
            · refine lv_ldc hx hb hown (hg _ m_689) d_Mo_store_62 ?_
              refine lv_goto (tgt := 68) hx hb d_Mo_store_64 (by decide) ?_
              refine lv_istore (lv' := [(5, .int _), (4, .int _), (0, .ref _), (1, .int _), (2, .int _), (3, .int _)]) hx hb d_Mo_store_68 hl (by decide) rfl (fun ls hl => ?_)
              refine lv_iload_n hx hb d_Mo_store_70 rfl (lv_at hl 3 rfl) ?_
              refine lv_iconst (v := 2) hx hb d_Mo_store_71 (by decide) ?_
              refine lv_icmp_ne (tgt := 79) hx hb d_Mo_store_72 (by decide) (fun _ => ?_) (fun h => absurd h h25)
              refine lv_aload_n hx hb d_Mo_store_79 rfl (lv_at hl 2 rfl) ?_
              refine va_get (ci := 5) (C := R_Mo) (T := F_Mo) (N := 18) hx hb hg in_Mo hown hK hP 0 rfl rfl 14 (by decide) (hg _ m_517) (fun _ h => h) rfl d_Mo_store_80 ?_
              refine lv_istore (lv' := [(6, .int _), (5, .int _), (4, .int _), (0, .ref _), (1, .int _), (2, .int _), (3, .int _)]) hx hb d_Mo_store_83 hl (by decide) rfl (fun ls hl => ?_)
              refine lv_aload_n hx hb d_Mo_store_85 rfl (lv_at hl 3 rfl) ?_
              refine lv_iload_n hx hb d_Mo_store_86 rfl (lv_at hl 5 rfl) ?_
              refine lv_iconst (v := 4) hx hb d_Mo_store_87 (by decide) ?_
              refine lv_idiv hx hb d_Mo_store_88 (by decide) ?_
              refine lv_iload hx hb d_Mo_store_89 (lv_at hl 0 rfl) ?_
              refine lv_iload hx hb d_Mo_store_91 (lv_at hl 1 rfl) ?_
              refine lv_iload hx hb d_Mo_store_93 (lv_at hl 2 rfl) ?_
              refine lv_ishl hx hb d_Mo_store_95 ?_
              refine lv_iconst (v := -1) hx hb d_Mo_store_96 (by decide) ?_
              refine lv_ixor hx hb d_Mo_store_97 ?_
              refine lv_iand hx hb d_Mo_store_98 ?_
              refine lv_iload_n hx hb d_Mo_store_99 rfl (lv_at hl 6 rfl) ?_
              refine lv_iload hx hb d_Mo_store_100 (lv_at hl 1 rfl) ?_
              refine lv_iand hx hb d_Mo_store_102 ?_
              refine lv_iload hx hb d_Mo_store_103 (lv_at hl 2 rfl) ?_
              refine lv_ishl hx hb d_Mo_store_105 ?_
              refine lv_ior hx hb d_Mo_store_106 ?_
              refine cj_v (wc := (W_Mo cI cL b0 b1 b2 b3 b4 b5 b6 b7 ev wr t5.2.1 ke ma t5.2.2.1 ps pn cy t5.2.2.2.1 t5.2.2.2.2.1 t5.2.2.2.2.2.1 pp px t5.2.2.2.2.2.2 ne gi gn)) (w1 := (W_Mo cI cL b0 b1 b2 b3 b4 b5 b6 b7 ev ((f_Mo_save wr t5.2.1 t5.2.2.1 t5.2.2.2.2.2.1 (a / (4 : Int32)) ((t5.2.2.2.2.2.2 &&& (((65535 : Int32) <<< (((8 : Int32) * (u_rem a (4 : Int32))) &&& 31)) ^^^ (-1 : Int32))) ||| ((b &&& (65535 : Int32)) <<< (((8 : Int32) * (u_rem a (4 : Int32))) &&& 31)))).1) ((f_Mo_save wr t5.2.1 t5.2.2.1 t5.2.2.2.2.2.1 (a / (4 : Int32)) ((t5.2.2.2.2.2.2 &&& (((65535 : Int32) <<< (((8 : Int32) * (u_rem a (4 : Int32))) &&& 31)) ^^^ (-1 : Int32))) ||| ((b &&& (65535 : Int32)) <<< (((8 : Int32) * (u_rem a (4 : Int32))) &&& 31)))).2.1) ke ma ((f_Mo_save wr t5.2.1 t5.2.2.1 t5.2.2.2.2.2.1 (a / (4 : Int32)) ((t5.2.2.2.2.2.2 &&& (((65535 : Int32) <<< (((8 : Int32) * (u_rem a (4 : Int32))) &&& 31)) ^^^ (-1 : Int32))) ||| ((b &&& (65535 : Int32)) <<< (((8 : Int32) * (u_rem a (4 : Int32))) &&& 31)))).2.2.1) ps pn cy t5.2.2.2.1 t5.2.2.2.2.1 ((f_Mo_save wr t5.2.1 t5.2.2.1 t5.2.2.2.2.2.1 (a / (4 : Int32)) ((t5.2.2.2.2.2.2 &&& (((65535 : Int32) <<< (((8 : Int32) * (u_rem a (4 : Int32))) &&& 31)) ^^^ (-1 : Int32))) ||| ((b &&& (65535 : Int32)) <<< (((8 : Int32) * (u_rem a (4 : Int32))) &&& 31)))).2.2.2) pp px t5.2.2.2.2.2.2 ne gi gn)) hP hD hS hA [0, 1, 2, 3, 4, 5, 6, 7] rfl [b0, b1, b2, b3, b4, b5, b6, b7] rfl rfl (va_runV (rest := []) ⟨hx, hb, hml, hown, hg⟩ (c_Mo_save l D cI cL b0 b1 b2 b3 b4 b5 b6 b7 _ ev wr t5.2.1 ke ma t5.2.2.1 ps pn cy t5.2.2.2.1 t5.2.2.2.2.1 t5.2.2.2.2.2.1 pp px t5.2.2.2.2.2.2 ne gi gn (a / (4 : Int32)) ((t5.2.2.2.2.2.2 &&& (((65535 : Int32) <<< (((8 : Int32) * (u_rem a (4 : Int32))) &&& 31)) ^^^ (-1 : Int32))) ||| ((b &&& (65535 : Int32)) <<< (((8 : Int32) * (u_rem a (4 : Int32))) &&& 31))) (in_reach h20)) ⟨callB_of 2 hg (gw_good m_693) rfl rfl rfl (hg _ m_71) (hg _ m_690) hd_Mo_save ⟨Nat.le_of_ble_eq_true rfl, Nat.le_of_ble_eq_true rfl⟩, hg _ m_692, hg _ m_58⟩ (pw_V hK hN hT hA hP hD hS [0, 1, 2, 3, 4, 5, 6, 7] rfl (by decide) (q0 := 0) (ci := 5) rfl rfl) rfl rfl hl.1 rfl (lv_room (Nat.le_of_ble_eq_true rfl)) d_Mo_store_107 ⟨Nat.le_of_ble_eq_true rfl, Nat.le_of_ble_eq_true rfl⟩) (fun H locs hP hD hS => ?_)
              have hP : va_P D classes (W_Mo cI cL b0 b1 b2 b3 b4 b5 b6 b7 ev ((f_Mo_save wr t5.2.1 t5.2.2.1 t5.2.2.2.2.2.1 (a / (4 : Int32)) ((t5.2.2.2.2.2.2 &&& (((65535 : Int32) <<< (((8 : Int32) * (u_rem a (4 : Int32))) &&& 31)) ^^^ (-1 : Int32))) ||| ((b &&& (65535 : Int32)) <<< (((8 : Int32) * (u_rem a (4 : Int32))) &&& 31)))).1) ((f_Mo_save wr t5.2.1 t5.2.2.1 t5.2.2.2.2.2.1 (a / (4 : Int32)) ((t5.2.2.2.2.2.2 &&& (((65535 : Int32) <<< (((8 : Int32) * (u_rem a (4 : Int32))) &&& 31)) ^^^ (-1 : Int32))) ||| ((b &&& (65535 : Int32)) <<< (((8 : Int32) * (u_rem a (4 : Int32))) &&& 31)))).2.1) ke ma ((f_Mo_save wr t5.2.1 t5.2.2.1 t5.2.2.2.2.2.1 (a / (4 : Int32)) ((t5.2.2.2.2.2.2 &&& (((65535 : Int32) <<< (((8 : Int32) * (u_rem a (4 : Int32))) &&& 31)) ^^^ (-1 : Int32))) ||| ((b &&& (65535 : Int32)) <<< (((8 : Int32) * (u_rem a (4 : Int32))) &&& 31)))).2.2.1) ps pn cy t5.2.2.2.1 t5.2.2.2.2.1 ((f_Mo_save wr t5.2.1 t5.2.2.1 t5.2.2.2.2.2.1 (a / (4 : Int32)) ((t5.2.2.2.2.2.2 &&& (((65535 : Int32) <<< (((8 : Int32) * (u_rem a (4 : Int32))) &&& 31)) ^^^ (-1 : Int32))) ||| ((b &&& (65535 : Int32)) <<< (((8 : Int32) * (u_rem a (4 : Int32))) &&& 31)))).2.2.2) pp px t5.2.2.2.2.2.2 ne gi gn) H := hP
              have hD : va_D A (W_Mo cI cL b0 b1 b2 b3 b4 b5 b6 b7 ev ((f_Mo_save wr t5.2.1 t5.2.2.1 t5.2.2.2.2.2.1 (a / (4 : Int32)) ((t5.2.2.2.2.2.2 &&& (((65535 : Int32) <<< (((8 : Int32) * (u_rem a (4 : Int32))) &&& 31)) ^^^ (-1 : Int32))) ||| ((b &&& (65535 : Int32)) <<< (((8 : Int32) * (u_rem a (4 : Int32))) &&& 31)))).1) ((f_Mo_save wr t5.2.1 t5.2.2.1 t5.2.2.2.2.2.1 (a / (4 : Int32)) ((t5.2.2.2.2.2.2 &&& (((65535 : Int32) <<< (((8 : Int32) * (u_rem a (4 : Int32))) &&& 31)) ^^^ (-1 : Int32))) ||| ((b &&& (65535 : Int32)) <<< (((8 : Int32) * (u_rem a (4 : Int32))) &&& 31)))).2.1) ke ma ((f_Mo_save wr t5.2.1 t5.2.2.1 t5.2.2.2.2.2.1 (a / (4 : Int32)) ((t5.2.2.2.2.2.2 &&& (((65535 : Int32) <<< (((8 : Int32) * (u_rem a (4 : Int32))) &&& 31)) ^^^ (-1 : Int32))) ||| ((b &&& (65535 : Int32)) <<< (((8 : Int32) * (u_rem a (4 : Int32))) &&& 31)))).2.2.1) ps pn cy t5.2.2.2.1 t5.2.2.2.2.1 ((f_Mo_save wr t5.2.1 t5.2.2.1 t5.2.2.2.2.2.1 (a / (4 : Int32)) ((t5.2.2.2.2.2.2 &&& (((65535 : Int32) <<< (((8 : Int32) * (u_rem a (4 : Int32))) &&& 31)) ^^^ (-1 : Int32))) ||| ((b &&& (65535 : Int32)) <<< (((8 : Int32) * (u_rem a (4 : Int32))) &&& 31)))).2.2.2) pp px t5.2.2.2.2.2.2 ne gi gn) := hD
              generalize e_t7 : f_Mo_save wr t5.2.1 t5.2.2.1 t5.2.2.2.2.2.1 (a / (4 : Int32)) ((t5.2.2.2.2.2.2 &&& (((65535 : Int32) <<< (((8 : Int32) * (u_rem a (4 : Int32))) &&& 31)) ^^^ (-1 : Int32))) ||| ((b &&& (65535 : Int32)) <<< (((8 : Int32) * (u_rem a (4 : Int32))) &&& 31))) = t7 at hP hD ⊢
              rw [f_Mo_store_e6 wr wg li ca va cn px go f a b t1 t5 t7 e_t1 e_t5 e_t7 h2 h20 h25 h36 h48 h59]
              exact W.vret hx hb hr (fun t ht hW => ⟨⟨(), rfl, trivial, by show va_P D classes _ t.heap; rw [ht]; exact hP⟩, hS.F ht⟩) hS.2.2 d_Mo_store_110 hlocks
          · refine lv_sipush (v := 255) hx hb d_Mo_store_51 (by decide) ?_
            refine lv_goto (tgt := 68) hx hb d_Mo_store_54 (by decide) ?_
            refine lv_istore (lv' := [(5, .int _), (4, .int _), (0, .ref _), (1, .int _), (2, .int _), (3, .int _)]) hx hb d_Mo_store_68 hl (by decide) rfl (fun ls hl => ?_)
            refine lv_iload_n hx hb d_Mo_store_70 rfl (lv_at hl 3 rfl) ?_
            refine lv_iconst (v := 2) hx hb d_Mo_store_71 (by decide) ?_
            refine lv_icmp_ne (tgt := 79) hx hb d_Mo_store_72 (by decide) (fun _ => ?_) (fun h => absurd h h25)
            refine lv_aload_n hx hb d_Mo_store_79 rfl (lv_at hl 2 rfl) ?_
            refine va_get (ci := 5) (C := R_Mo) (T := F_Mo) (N := 18) hx hb hg in_Mo hown hK hP 0 rfl rfl 14 (by decide) (hg _ m_517) (fun _ h => h) rfl d_Mo_store_80 ?_
            refine lv_istore (lv' := [(6, .int _), (5, .int _), (4, .int _), (0, .ref _), (1, .int _), (2, .int _), (3, .int _)]) hx hb d_Mo_store_83 hl (by decide) rfl (fun ls hl => ?_)
            refine lv_aload_n hx hb d_Mo_store_85 rfl (lv_at hl 3 rfl) ?_
            refine lv_iload_n hx hb d_Mo_store_86 rfl (lv_at hl 5 rfl) ?_
            refine lv_iconst (v := 4) hx hb d_Mo_store_87 (by decide) ?_
            refine lv_idiv hx hb d_Mo_store_88 (by decide) ?_
            refine lv_iload hx hb d_Mo_store_89 (lv_at hl 0 rfl) ?_
            refine lv_iload hx hb d_Mo_store_91 (lv_at hl 1 rfl) ?_
            refine lv_iload hx hb d_Mo_store_93 (lv_at hl 2 rfl) ?_
            refine lv_ishl hx hb d_Mo_store_95 ?_
            refine lv_iconst (v := -1) hx hb d_Mo_store_96 (by decide) ?_
            refine lv_ixor hx hb d_Mo_store_97 ?_
            refine lv_iand hx hb d_Mo_store_98 ?_
            refine lv_iload_n hx hb d_Mo_store_99 rfl (lv_at hl 6 rfl) ?_
            refine lv_iload hx hb d_Mo_store_100 (lv_at hl 1 rfl) ?_
            refine lv_iand hx hb d_Mo_store_102 ?_
            refine lv_iload hx hb d_Mo_store_103 (lv_at hl 2 rfl) ?_
            refine lv_ishl hx hb d_Mo_store_105 ?_
            refine lv_ior hx hb d_Mo_store_106 ?_
            refine cj_v (wc := (W_Mo cI cL b0 b1 b2 b3 b4 b5 b6 b7 ev wr t5.2.1 ke ma t5.2.2.1 ps pn cy t5.2.2.2.1 t5.2.2.2.2.1 t5.2.2.2.2.2.1 pp px t5.2.2.2.2.2.2 ne gi gn)) (w1 := (W_Mo cI cL b0 b1 b2 b3 b4 b5 b6 b7 ev ((f_Mo_save wr t5.2.1 t5.2.2.1 t5.2.2.2.2.2.1 (a / (4 : Int32)) ((t5.2.2.2.2.2.2 &&& (((255 : Int32) <<< (((8 : Int32) * (u_rem a (4 : Int32))) &&& 31)) ^^^ (-1 : Int32))) ||| ((b &&& (255 : Int32)) <<< (((8 : Int32) * (u_rem a (4 : Int32))) &&& 31)))).1) ((f_Mo_save wr t5.2.1 t5.2.2.1 t5.2.2.2.2.2.1 (a / (4 : Int32)) ((t5.2.2.2.2.2.2 &&& (((255 : Int32) <<< (((8 : Int32) * (u_rem a (4 : Int32))) &&& 31)) ^^^ (-1 : Int32))) ||| ((b &&& (255 : Int32)) <<< (((8 : Int32) * (u_rem a (4 : Int32))) &&& 31)))).2.1) ke ma ((f_Mo_save wr t5.2.1 t5.2.2.1 t5.2.2.2.2.2.1 (a / (4 : Int32)) ((t5.2.2.2.2.2.2 &&& (((255 : Int32) <<< (((8 : Int32) * (u_rem a (4 : Int32))) &&& 31)) ^^^ (-1 : Int32))) ||| ((b &&& (255 : Int32)) <<< (((8 : Int32) * (u_rem a (4 : Int32))) &&& 31)))).2.2.1) ps pn cy t5.2.2.2.1 t5.2.2.2.2.1 ((f_Mo_save wr t5.2.1 t5.2.2.1 t5.2.2.2.2.2.1 (a / (4 : Int32)) ((t5.2.2.2.2.2.2 &&& (((255 : Int32) <<< (((8 : Int32) * (u_rem a (4 : Int32))) &&& 31)) ^^^ (-1 : Int32))) ||| ((b &&& (255 : Int32)) <<< (((8 : Int32) * (u_rem a (4 : Int32))) &&& 31)))).2.2.2) pp px t5.2.2.2.2.2.2 ne gi gn)) hP hD hS hA [0, 1, 2, 3, 4, 5, 6, 7] rfl [b0, b1, b2, b3, b4, b5, b6, b7] rfl rfl (va_runV (rest := []) ⟨hx, hb, hml, hown, hg⟩ (c_Mo_save l D cI cL b0 b1 b2 b3 b4 b5 b6 b7 _ ev wr t5.2.1 ke ma t5.2.2.1 ps pn cy t5.2.2.2.1 t5.2.2.2.2.1 t5.2.2.2.2.2.1 pp px t5.2.2.2.2.2.2 ne gi gn (a / (4 : Int32)) ((t5.2.2.2.2.2.2 &&& (((255 : Int32) <<< (((8 : Int32) * (u_rem a (4 : Int32))) &&& 31)) ^^^ (-1 : Int32))) ||| ((b &&& (255 : Int32)) <<< (((8 : Int32) * (u_rem a (4 : Int32))) &&& 31))) (in_reach h20)) ⟨callB_of 2 hg (gw_good m_693) rfl rfl rfl (hg _ m_71) (hg _ m_690) hd_Mo_save ⟨Nat.le_of_ble_eq_true rfl, Nat.le_of_ble_eq_true rfl⟩, hg _ m_692, hg _ m_58⟩ (pw_V hK hN hT hA hP hD hS [0, 1, 2, 3, 4, 5, 6, 7] rfl (by decide) (q0 := 0) (ci := 5) rfl rfl) rfl rfl hl.1 rfl (lv_room (Nat.le_of_ble_eq_true rfl)) d_Mo_store_107 ⟨Nat.le_of_ble_eq_true rfl, Nat.le_of_ble_eq_true rfl⟩) (fun H locs hP hD hS => ?_)
            have hP : va_P D classes (W_Mo cI cL b0 b1 b2 b3 b4 b5 b6 b7 ev ((f_Mo_save wr t5.2.1 t5.2.2.1 t5.2.2.2.2.2.1 (a / (4 : Int32)) ((t5.2.2.2.2.2.2 &&& (((255 : Int32) <<< (((8 : Int32) * (u_rem a (4 : Int32))) &&& 31)) ^^^ (-1 : Int32))) ||| ((b &&& (255 : Int32)) <<< (((8 : Int32) * (u_rem a (4 : Int32))) &&& 31)))).1) ((f_Mo_save wr t5.2.1 t5.2.2.1 t5.2.2.2.2.2.1 (a / (4 : Int32)) ((t5.2.2.2.2.2.2 &&& (((255 : Int32) <<< (((8 : Int32) * (u_rem a (4 : Int32))) &&& 31)) ^^^ (-1 : Int32))) ||| ((b &&& (255 : Int32)) <<< (((8 : Int32) * (u_rem a (4 : Int32))) &&& 31)))).2.1) ke ma ((f_Mo_save wr t5.2.1 t5.2.2.1 t5.2.2.2.2.2.1 (a / (4 : Int32)) ((t5.2.2.2.2.2.2 &&& (((255 : Int32) <<< (((8 : Int32) * (u_rem a (4 : Int32))) &&& 31)) ^^^ (-1 : Int32))) ||| ((b &&& (255 : Int32)) <<< (((8 : Int32) * (u_rem a (4 : Int32))) &&& 31)))).2.2.1) ps pn cy t5.2.2.2.1 t5.2.2.2.2.1 ((f_Mo_save wr t5.2.1 t5.2.2.1 t5.2.2.2.2.2.1 (a / (4 : Int32)) ((t5.2.2.2.2.2.2 &&& (((255 : Int32) <<< (((8 : Int32) * (u_rem a (4 : Int32))) &&& 31)) ^^^ (-1 : Int32))) ||| ((b &&& (255 : Int32)) <<< (((8 : Int32) * (u_rem a (4 : Int32))) &&& 31)))).2.2.2) pp px t5.2.2.2.2.2.2 ne gi gn) H := hP
            have hD : va_D A (W_Mo cI cL b0 b1 b2 b3 b4 b5 b6 b7 ev ((f_Mo_save wr t5.2.1 t5.2.2.1 t5.2.2.2.2.2.1 (a / (4 : Int32)) ((t5.2.2.2.2.2.2 &&& (((255 : Int32) <<< (((8 : Int32) * (u_rem a (4 : Int32))) &&& 31)) ^^^ (-1 : Int32))) ||| ((b &&& (255 : Int32)) <<< (((8 : Int32) * (u_rem a (4 : Int32))) &&& 31)))).1) ((f_Mo_save wr t5.2.1 t5.2.2.1 t5.2.2.2.2.2.1 (a / (4 : Int32)) ((t5.2.2.2.2.2.2 &&& (((255 : Int32) <<< (((8 : Int32) * (u_rem a (4 : Int32))) &&& 31)) ^^^ (-1 : Int32))) ||| ((b &&& (255 : Int32)) <<< (((8 : Int32) * (u_rem a (4 : Int32))) &&& 31)))).2.1) ke ma ((f_Mo_save wr t5.2.1 t5.2.2.1 t5.2.2.2.2.2.1 (a / (4 : Int32)) ((t5.2.2.2.2.2.2 &&& (((255 : Int32) <<< (((8 : Int32) * (u_rem a (4 : Int32))) &&& 31)) ^^^ (-1 : Int32))) ||| ((b &&& (255 : Int32)) <<< (((8 : Int32) * (u_rem a (4 : Int32))) &&& 31)))).2.2.1) ps pn cy t5.2.2.2.1 t5.2.2.2.2.1 ((f_Mo_save wr t5.2.1 t5.2.2.1 t5.2.2.2.2.2.1 (a / (4 : Int32)) ((t5.2.2.2.2.2.2 &&& (((255 : Int32) <<< (((8 : Int32) * (u_rem a (4 : Int32))) &&& 31)) ^^^ (-1 : Int32))) ||| ((b &&& (255 : Int32)) <<< (((8 : Int32) * (u_rem a (4 : Int32))) &&& 31)))).2.2.2) pp px t5.2.2.2.2.2.2 ne gi gn) := hD
            generalize e_t8 : f_Mo_save wr t5.2.1 t5.2.2.1 t5.2.2.2.2.2.1 (a / (4 : Int32)) ((t5.2.2.2.2.2.2 &&& (((255 : Int32) <<< (((8 : Int32) * (u_rem a (4 : Int32))) &&& 31)) ^^^ (-1 : Int32))) ||| ((b &&& (255 : Int32)) <<< (((8 : Int32) * (u_rem a (4 : Int32))) &&& 31))) = t8 at hP hD ⊢
            rw [f_Mo_store_e7 wr wg li ca va cn px go f a b t1 t5 t8 e_t1 e_t5 e_t8 h2 h20 h25 h36 h48]
            exact W.vret hx hb hr (fun t ht hW => ⟨⟨(), rfl, trivial, by show va_P D classes _ t.heap; rw [ht]; exact hP⟩, hS.F ht⟩) hS.2.2 d_Mo_store_110 hlocks
  · refine lv_aload_n hx hb d_Mo_store_5 rfl (lv_at hl 0 rfl) ?_
    refine cj_v (wc := (W_Mo cI cL b0 b1 b2 b3 b4 b5 b6 b7 ev wr wg ke ma li ps pn cy ca va cn pp px go ne gi gn)) (w1 := (W_Mo cI cL b0 b1 b2 b3 b4 b5 b6 b7 ev wr wg ke ma li ps pn cy ((f_Mo_illegal ca va px).1) ((f_Mo_illegal ca va px).2) cn pp px go ne gi gn)) hP hD hS hA [0, 1, 2, 3, 4, 5, 6, 7] rfl [b0, b1, b2, b3, b4, b5, b6, b7] rfl rfl (va_runV (rest := []) ⟨hx, hb, hml, hown, hg⟩ (c_Mo_illegal l D cI cL b0 b1 b2 b3 b4 b5 b6 b7 _ ev wr wg ke ma li ps pn cy ca va cn pp px go ne gi gn) ⟨callB_of 0 hg (gw_good m_661) rfl rfl rfl (hg _ m_71) (hg _ m_658) hd_Mo_illegal ⟨Nat.le_of_ble_eq_true rfl, Nat.le_of_ble_eq_true rfl⟩, hg _ m_660, hg _ m_51⟩ (pw_V hK hN hT hA hP hD hS [0, 1, 2, 3, 4, 5, 6, 7] rfl (by decide) (q0 := 0) (ci := 5) rfl rfl) rfl rfl hl.1 rfl (lv_room (Nat.le_of_ble_eq_true rfl)) d_Mo_store_6 ⟨Nat.le_of_ble_eq_true rfl, Nat.le_of_ble_eq_true rfl⟩) (fun H locs hP hD hS => ?_)
    have hP : va_P D classes (W_Mo cI cL b0 b1 b2 b3 b4 b5 b6 b7 ev wr wg ke ma li ps pn cy ((f_Mo_illegal ca va px).1) ((f_Mo_illegal ca va px).2) cn pp px go ne gi gn) H := hP
    have hD : va_D A (W_Mo cI cL b0 b1 b2 b3 b4 b5 b6 b7 ev wr wg ke ma li ps pn cy ((f_Mo_illegal ca va px).1) ((f_Mo_illegal ca va px).2) cn pp px go ne gi gn) := hD
    generalize e_t9 : f_Mo_illegal ca va px = t9 at hP hD ⊢
    refine lv_goto (tgt := 110) hx hb d_Mo_store_9 (by decide) ?_
    rw [f_Mo_store_e8 wr wg li ca va cn px go f a b t9 e_t9 h2]
    exact W.vret hx hb hr (fun t ht hW => ⟨⟨(), rfl, trivial, by show va_P D classes _ t.heap; rw [ht]; exact hP⟩, hS.F ht⟩) hS.2.2 d_Mo_store_110 hlocks
abbrev q_Mo_reckoned (D : va_G) (cI cL : ClassId) (b0 b1 b2 b3 b4 b5 b6 b7 : Nat) (A : Nat → Prop) (ev : Int32) (wr : Nat → Int32) (wg : Nat → Int64) (ke : Nat → Int32) (ma : Nat → Int32) (li : Nat → Int64) (ps : Int32) (pn : Nat → Int32) (cy : Int32) (ca : Int32) (va : Int32) (cn : Nat → Int32) (pp : Int32) (px : Int32) (go : Int32) (ne : Int32) (gi : Int32) (gn : Int32) (F : Int32) : Array Value → State → Outcome → State → Prop := va_Qi (fun r (_ : Unit) => r = F) (fun _ t => va_P D classes (W_Mo cI cL b0 b1 b2 b3 b4 b5 b6 b7 ev wr wg ke ma li ps pn cy ca va cn pp px go ne gi gn) t.heap) A
theorem f_Mo_reckoned_e0 (f : Int32) (a : Int32) (b : Int32)  (h1_0 : f = (0 : Int32)) : f_Mo_reckoned f a b = ((a + b)) := by
  exact (if_pos h1_0)
theorem f_Mo_reckoned_e1 (f : Int32) (a : Int32) (b : Int32)  (h1_0 : ¬ f = (0 : Int32)) (h1_1 : f = (1 : Int32)) : f_Mo_reckoned f a b = ((a <<< ((b &&& (31 : Int32)) &&& 31))) := by
  exact ((if_neg h1_0).trans (if_pos h1_1))
theorem f_Mo_reckoned_e2 (f : Int32) (a : Int32) (b : Int32)  (h1_0 : ¬ f = (0 : Int32)) (h1_1 : ¬ f = (1 : Int32)) (h1_2 : f = (2 : Int32)) (h61 : (f_Mo_isLess a b (1 : Int32)) = 0) : f_Mo_reckoned f a b = ((0 : Int32)) := by
  exact ((if_neg h1_0).trans ((if_neg h1_1).trans ((if_pos h1_2).trans (if_pos h61))))
theorem f_Mo_reckoned_e3 (f : Int32) (a : Int32) (b : Int32)  (h1_0 : ¬ f = (0 : Int32)) (h1_1 : ¬ f = (1 : Int32)) (h1_2 : f = (2 : Int32)) (h61 : ¬ (f_Mo_isLess a b (1 : Int32)) = 0) : f_Mo_reckoned f a b = ((1 : Int32)) := by
  exact ((if_neg h1_0).trans ((if_neg h1_1).trans ((if_pos h1_2).trans (if_neg h61))))
theorem f_Mo_reckoned_e4 (f : Int32) (a : Int32) (b : Int32)  (h1_0 : ¬ f = (0 : Int32)) (h1_1 : ¬ f = (1 : Int32)) (h1_2 : ¬ f = (2 : Int32)) (h1_3 : f = (3 : Int32)) (h76 : (f_Mo_isLess a b (0 : Int32)) = 0) : f_Mo_reckoned f a b = ((0 : Int32)) := by
  exact ((if_neg h1_0).trans ((if_neg h1_1).trans ((if_neg h1_2).trans ((if_pos h1_3).trans (if_pos h76)))))
theorem f_Mo_reckoned_e5 (f : Int32) (a : Int32) (b : Int32)  (h1_0 : ¬ f = (0 : Int32)) (h1_1 : ¬ f = (1 : Int32)) (h1_2 : ¬ f = (2 : Int32)) (h1_3 : f = (3 : Int32)) (h76 : ¬ (f_Mo_isLess a b (0 : Int32)) = 0) : f_Mo_reckoned f a b = ((1 : Int32)) := by
  exact ((if_neg h1_0).trans ((if_neg h1_1).trans ((if_neg h1_2).trans ((if_pos h1_3).trans (if_neg h76)))))
theorem f_Mo_reckoned_e6 (f : Int32) (a : Int32) (b : Int32)  (h1_0 : ¬ f = (0 : Int32)) (h1_1 : ¬ f = (1 : Int32)) (h1_2 : ¬ f = (2 : Int32)) (h1_3 : ¬ f = (3 : Int32)) (h1_4 : f = (4 : Int32)) : f_Mo_reckoned f a b = ((a ^^^ b)) := by
  exact ((if_neg h1_0).trans ((if_neg h1_1).trans ((if_neg h1_2).trans ((if_neg h1_3).trans (if_pos h1_4)))))
theorem f_Mo_reckoned_e7 (f : Int32) (a : Int32) (b : Int32)  (h1_0 : ¬ f = (0 : Int32)) (h1_1 : ¬ f = (1 : Int32)) (h1_2 : ¬ f = (2 : Int32)) (h1_3 : ¬ f = (3 : Int32)) (h1_4 : ¬ f = (4 : Int32)) (h1_5 : f = (5 : Int32)) : f_Mo_reckoned f a b = ((u_ush a (b &&& (31 : Int32)))) := by
  exact ((if_neg h1_0).trans ((if_neg h1_1).trans ((if_neg h1_2).trans ((if_neg h1_3).trans ((if_neg h1_4).trans (if_pos h1_5))))))
theorem f_Mo_reckoned_e8 (f : Int32) (a : Int32) (b : Int32)  (h1_0 : ¬ f = (0 : Int32)) (h1_1 : ¬ f = (1 : Int32)) (h1_2 : ¬ f = (2 : Int32)) (h1_3 : ¬ f = (3 : Int32)) (h1_4 : ¬ f = (4 : Int32)) (h1_5 : ¬ f = (5 : Int32)) (h1_6 : f = (6 : Int32)) : f_Mo_reckoned f a b = ((a ||| b)) := by
  exact ((if_neg h1_0).trans ((if_neg h1_1).trans ((if_neg h1_2).trans ((if_neg h1_3).trans ((if_neg h1_4).trans ((if_neg h1_5).trans (if_pos h1_6)))))))
theorem f_Mo_reckoned_e9 (f : Int32) (a : Int32) (b : Int32)  (h1_0 : ¬ f = (0 : Int32)) (h1_1 : ¬ f = (1 : Int32)) (h1_2 : ¬ f = (2 : Int32)) (h1_3 : ¬ f = (3 : Int32)) (h1_4 : ¬ f = (4 : Int32)) (h1_5 : ¬ f = (5 : Int32)) (h1_6 : ¬ f = (6 : Int32)) : f_Mo_reckoned f a b = ((a &&& b)) := by
  exact ((if_neg h1_0).trans ((if_neg h1_1).trans ((if_neg h1_2).trans ((if_neg h1_3).trans ((if_neg h1_4).trans ((if_neg h1_5).trans (if_neg h1_6)))))))
set_option maxHeartbeats 4000000 in
set_option maxRecDepth 100000 in
theorem c_Mo_reckoned (l : Launch) (D : va_G) (cI cL : ClassId) (b0 b1 b2 b3 b4 b5 b6 b7 : Nat) (sz : Nat) (ev : Int32) (wr : Nat → Int32) (wg : Nat → Int64) (ke : Nat → Int32) (ma : Nat → Int32) (li : Nat → Int64) (ps : Int32) (pn : Nat → Int32) (cy : Int32) (ca : Int32) (va : Int32) (cn : Nat → Int32) (pp : Int32) (px : Int32) (go : Int32) (ne : Int32) (gi : Int32) (gn : Int32) (f : Int32) (a : Int32) (b : Int32)  : Met l y_Mo_reckoned w_Mo_reckoned ({ frames := 1, cells := 0, slots := 0, locals := 22 }) (va_Pc [.ref b0, .int f, .int a, .int b] (PW D cI cL (W_Mo cI cL b0 b1 b2 b3 b4 b5 b6 b7 ev wr wg ke ma li ps pn cy ca va cn pp px go ne gi gn) sz)) (q_Mo_reckoned D cI cL b0 b1 b2 b3 b4 b5 b6 b7 (va_A (W_Mo cI cL b0 b1 b2 b3 b4 b5 b6 b7 ev wr wg ke ma li ps pn cy ca va cn pp px go ne gi gn) sz) ev wr wg ke ma li ps pn cy ca va cn pp px go ne gi gn (f_Mo_reckoned f a b)) 0 0 (va_A (W_Mo cI cL b0 b1 b2 b3 b4 b5 b6 b7 ev wr wg ke ma li ps pn cy ca va cn pp px go ne gi gn) sz) := by
  refine mk_met (Qf := fun A => q_Mo_reckoned D cI cL b0 b1 b2 b3 b4 b5 b6 b7 A ev wr wg ke ma li ps pn cy ca va cn pp px go ne gi gn (f_Mo_reckoned f a b)) (by decide) (Nat.le_of_ble_eq_true rfl) ?_
  intro p e s m below meth c A ls hx hb hr hlocks hml hown hg hK hN hT hA hP hD hS hnm hl
  refine lv_iload_n hx hb d_Mo_reckoned_0 rfl (lv_at hl 1 rfl) ?_
  by_cases h1_0 : f = (0 : Int32)
  · refine lv_tableIn (tgt := 44) hx hb d_Mo_reckoned_1 (by rw [h1_0]; decide) (by rw [h1_0]; decide) (by rw [h1_0]; rfl) (by decide) ?_
    refine lv_iload_n hx hb d_Mo_reckoned_44 rfl (lv_at hl 2 rfl) ?_
    refine lv_iload_n hx hb d_Mo_reckoned_45 rfl (lv_at hl 3 rfl) ?_
    refine lv_iadd hx hb d_Mo_reckoned_46 ?_
    rw [f_Mo_reckoned_e0 f a b h1_0]
    exact W.iret hx hb hr (fun t ht hW => ⟨⟨_, (), rfl, rfl, by show va_P D classes _ t.heap; rw [ht]; exact hP⟩, hS.F ht⟩) hS.2.2 d_Mo_reckoned_47 hlocks
  · by_cases h1_1 : f = (1 : Int32)
    · refine lv_tableIn (tgt := 48) hx hb d_Mo_reckoned_1 (by rw [h1_1]; decide) (by rw [h1_1]; decide) (by rw [h1_1]; rfl) (by decide) ?_
      refine lv_iload_n hx hb d_Mo_reckoned_48 rfl (lv_at hl 2 rfl) ?_
      refine lv_iload_n hx hb d_Mo_reckoned_49 rfl (lv_at hl 3 rfl) ?_
      refine lv_bipush (v := 31) hx hb d_Mo_reckoned_50 (by decide) ?_
      refine lv_iand hx hb d_Mo_reckoned_52 ?_
      refine lv_ishl hx hb d_Mo_reckoned_53 ?_
      rw [f_Mo_reckoned_e1 f a b h1_0 h1_1]
      exact W.iret hx hb hr (fun t ht hW => ⟨⟨_, (), rfl, rfl, by show va_P D classes _ t.heap; rw [ht]; exact hP⟩, hS.F ht⟩) hS.2.2 d_Mo_reckoned_54 hlocks
    · by_cases h1_2 : f = (2 : Int32)
      · refine lv_tableIn (tgt := 55) hx hb d_Mo_reckoned_1 (by rw [h1_2]; decide) (by rw [h1_2]; decide) (by rw [h1_2]; rfl) (by decide) ?_
        refine lv_iload_n hx hb d_Mo_reckoned_55 rfl (lv_at hl 2 rfl) ?_
        refine lv_iload_n hx hb d_Mo_reckoned_56 rfl (lv_at hl 3 rfl) ?_
        refine lv_iconst (v := 1) hx hb d_Mo_reckoned_57 (by decide) ?_
        refine cj_i (wc := []) (w1 := []) hP hD hS hA [] rfl [] rfl rfl (va_runS (rest := []) ⟨hx, hb, hml, hown, hg⟩ (c_Mo_isLess l D cI cL  _ a b (1 : Int32)) ⟨callB_of 3 hg (gw_good m_668) rfl rfl rfl (hg _ m_71) (hg _ m_666) hd_Mo_isLess ⟨Nat.le_of_ble_eq_true rfl, Nat.le_of_ble_eq_true rfl⟩, hg _ m_667⟩ (pw_S hK hN hT hA hP hD hS [] rfl (by decide)) rfl rfl hl.1 rfl (lv_room (Nat.le_of_ble_eq_true rfl)) d_Mo_reckoned_58 ⟨Nat.le_of_ble_eq_true rfl, Nat.le_of_ble_eq_true rfl⟩) (fun H locs hP hD hS => ?_)
        have hP : va_P D classes (W_Mo cI cL b0 b1 b2 b3 b4 b5 b6 b7 ev wr wg ke ma li ps pn cy ca va cn pp px go ne gi gn) H := hP
        have hD : va_D A (W_Mo cI cL b0 b1 b2 b3 b4 b5 b6 b7 ev wr wg ke ma li ps pn cy ca va cn pp px go ne gi gn) := hD
        refine lv_if_eq (tgt := 68) hx hb d_Mo_reckoned_61 (by decide) (fun h61 => ?_) (fun h61 => ?_)
        · refine lv_iconst (v := 0) hx hb d_Mo_reckoned_68 (by decide) ?_
          rw [f_Mo_reckoned_e2 f a b h1_0 h1_1 h1_2 h61]
          exact W.iret hx hb hr (fun t ht hW => ⟨⟨_, (), rfl, rfl, by show va_P D classes _ t.heap; rw [ht]; exact hP⟩, hS.F ht⟩) hS.2.2 d_Mo_reckoned_69 hlocks
        · refine lv_iconst (v := 1) hx hb d_Mo_reckoned_64 (by decide) ?_
          refine lv_goto (tgt := 69) hx hb d_Mo_reckoned_65 (by decide) ?_
          rw [f_Mo_reckoned_e3 f a b h1_0 h1_1 h1_2 h61]
          exact W.iret hx hb hr (fun t ht hW => ⟨⟨_, (), rfl, rfl, by show va_P D classes _ t.heap; rw [ht]; exact hP⟩, hS.F ht⟩) hS.2.2 d_Mo_reckoned_69 hlocks
      · by_cases h1_3 : f = (3 : Int32)
        · refine lv_tableIn (tgt := 70) hx hb d_Mo_reckoned_1 (by rw [h1_3]; decide) (by rw [h1_3]; decide) (by rw [h1_3]; rfl) (by decide) ?_
          refine lv_iload_n hx hb d_Mo_reckoned_70 rfl (lv_at hl 2 rfl) ?_
          refine lv_iload_n hx hb d_Mo_reckoned_71 rfl (lv_at hl 3 rfl) ?_
          refine lv_iconst (v := 0) hx hb d_Mo_reckoned_72 (by decide) ?_
          refine cj_i (wc := []) (w1 := []) hP hD hS hA [] rfl [] rfl rfl (va_runS (rest := []) ⟨hx, hb, hml, hown, hg⟩ (c_Mo_isLess l D cI cL  _ a b (0 : Int32)) ⟨callB_of 3 hg (gw_good m_668) rfl rfl rfl (hg _ m_71) (hg _ m_666) hd_Mo_isLess ⟨Nat.le_of_ble_eq_true rfl, Nat.le_of_ble_eq_true rfl⟩, hg _ m_667⟩ (pw_S hK hN hT hA hP hD hS [] rfl (by decide)) rfl rfl hl.1 rfl (lv_room (Nat.le_of_ble_eq_true rfl)) d_Mo_reckoned_73 ⟨Nat.le_of_ble_eq_true rfl, Nat.le_of_ble_eq_true rfl⟩) (fun H locs hP hD hS => ?_)
          have hP : va_P D classes (W_Mo cI cL b0 b1 b2 b3 b4 b5 b6 b7 ev wr wg ke ma li ps pn cy ca va cn pp px go ne gi gn) H := hP
          have hD : va_D A (W_Mo cI cL b0 b1 b2 b3 b4 b5 b6 b7 ev wr wg ke ma li ps pn cy ca va cn pp px go ne gi gn) := hD
          refine lv_if_eq (tgt := 83) hx hb d_Mo_reckoned_76 (by decide) (fun h76 => ?_) (fun h76 => ?_)
          · refine lv_iconst (v := 0) hx hb d_Mo_reckoned_83 (by decide) ?_
            rw [f_Mo_reckoned_e4 f a b h1_0 h1_1 h1_2 h1_3 h76]
            exact W.iret hx hb hr (fun t ht hW => ⟨⟨_, (), rfl, rfl, by show va_P D classes _ t.heap; rw [ht]; exact hP⟩, hS.F ht⟩) hS.2.2 d_Mo_reckoned_84 hlocks
          · refine lv_iconst (v := 1) hx hb d_Mo_reckoned_79 (by decide) ?_
            refine lv_goto (tgt := 84) hx hb d_Mo_reckoned_80 (by decide) ?_
            rw [f_Mo_reckoned_e5 f a b h1_0 h1_1 h1_2 h1_3 h76]
            exact W.iret hx hb hr (fun t ht hW => ⟨⟨_, (), rfl, rfl, by show va_P D classes _ t.heap; rw [ht]; exact hP⟩, hS.F ht⟩) hS.2.2 d_Mo_reckoned_84 hlocks
        · by_cases h1_4 : f = (4 : Int32)
          · refine lv_tableIn (tgt := 85) hx hb d_Mo_reckoned_1 (by rw [h1_4]; decide) (by rw [h1_4]; decide) (by rw [h1_4]; rfl) (by decide) ?_
            refine lv_iload_n hx hb d_Mo_reckoned_85 rfl (lv_at hl 2 rfl) ?_
            refine lv_iload_n hx hb d_Mo_reckoned_86 rfl (lv_at hl 3 rfl) ?_
            refine lv_ixor hx hb d_Mo_reckoned_87 ?_
            rw [f_Mo_reckoned_e6 f a b h1_0 h1_1 h1_2 h1_3 h1_4]
            exact W.iret hx hb hr (fun t ht hW => ⟨⟨_, (), rfl, rfl, by show va_P D classes _ t.heap; rw [ht]; exact hP⟩, hS.F ht⟩) hS.2.2 d_Mo_reckoned_88 hlocks
          · by_cases h1_5 : f = (5 : Int32)
            · refine lv_tableIn (tgt := 89) hx hb d_Mo_reckoned_1 (by rw [h1_5]; decide) (by rw [h1_5]; decide) (by rw [h1_5]; rfl) (by decide) ?_
              refine lv_iload_n hx hb d_Mo_reckoned_89 rfl (lv_at hl 2 rfl) ?_
              refine lv_iload_n hx hb d_Mo_reckoned_90 rfl (lv_at hl 3 rfl) ?_
              refine lv_bipush (v := 31) hx hb d_Mo_reckoned_91 (by decide) ?_
              refine lv_iand hx hb d_Mo_reckoned_93 ?_
              refine lv_iushr (v := u_ush _ _) hx hb d_Mo_reckoned_94 rfl ?_
              rw [f_Mo_reckoned_e7 f a b h1_0 h1_1 h1_2 h1_3 h1_4 h1_5]
              exact W.iret hx hb hr (fun t ht hW => ⟨⟨_, (), rfl, rfl, by show va_P D classes _ t.heap; rw [ht]; exact hP⟩, hS.F ht⟩) hS.2.2 d_Mo_reckoned_95 hlocks
            · by_cases h1_6 : f = (6 : Int32)
              · refine lv_tableIn (tgt := 96) hx hb d_Mo_reckoned_1 (by rw [h1_6]; decide) (by rw [h1_6]; decide) (by rw [h1_6]; rfl) (by decide) ?_
                refine lv_iload_n hx hb d_Mo_reckoned_96 rfl (lv_at hl 2 rfl) ?_
                refine lv_iload_n hx hb d_Mo_reckoned_97 rfl (lv_at hl 3 rfl) ?_
                refine lv_ior hx hb d_Mo_reckoned_98 ?_
                rw [f_Mo_reckoned_e8 f a b h1_0 h1_1 h1_2 h1_3 h1_4 h1_5 h1_6]
                exact W.iret hx hb hr (fun t ht hW => ⟨⟨_, (), rfl, rfl, by show va_P D classes _ t.heap; rw [ht]; exact hP⟩, hS.F ht⟩) hS.2.2 d_Mo_reckoned_99 hlocks
              · refine lv_tableOut (tgt := 100) hx hb d_Mo_reckoned_1 (by have n0 := lv_neT (a := 0) h1_0 (by decide); have n1 := lv_neT (a := 1) h1_1 (by decide); have n2 := lv_neT (a := 2) h1_2 (by decide); have n3 := lv_neT (a := 3) h1_3 (by decide); have n4 := lv_neT (a := 4) h1_4 (by decide); have n5 := lv_neT (a := 5) h1_5 (by decide); have n6 := lv_neT (a := 6) h1_6 (by decide); omega) (by decide) ?_
                refine lv_iload_n hx hb d_Mo_reckoned_100 rfl (lv_at hl 2 rfl) ?_
                refine lv_iload_n hx hb d_Mo_reckoned_101 rfl (lv_at hl 3 rfl) ?_
                refine lv_iand hx hb d_Mo_reckoned_102 ?_
                rw [f_Mo_reckoned_e9 f a b h1_0 h1_1 h1_2 h1_3 h1_4 h1_5 h1_6]
                exact W.iret hx hb hr (fun t ht hW => ⟨⟨_, (), rfl, rfl, by show va_P D classes _ t.heap; rw [ht]; exact hP⟩, hS.F ht⟩) hS.2.2 d_Mo_reckoned_103 hlocks
abbrev q_Mo_reckon (D : va_G) (cI cL : ClassId) (b0 b1 b2 b3 b4 b5 b6 b7 : Nat) (A : Nat → Prop) (ev : Int32) (wr : Nat → Int32) (wg : Nat → Int64) (ke : Nat → Int32) (ma : Nat → Int32) (li : Nat → Int64) (ps : Int32) (pn : Nat → Int32) (cy : Int32) (ca : Int32) (va : Int32) (cn : Nat → Int32) (pp : Int32) (px : Int32) (go : Int32) (ne : Int32) (gi : Int32) (gn : Int32) (F : Int32 × Int32 × Int32 × Int32) : Array Value → State → Outcome → State → Prop := va_Qv (fun (_ : Unit) => True) (fun _ t => va_P D classes (W_Mo cI cL b0 b1 b2 b3 b4 b5 b6 b7 ev wr wg ke ma li ps pn cy F.1 F.2.1 cn pp px go ne F.2.2.1 F.2.2.2) t.heap) A
theorem f_Mo_reckon_e0 (ca : Int32) (va : Int32) (px : Int32) (gi : Int32) (gn : Int32) (f : Int32) (g : Int32) (a : Int32) (b : Int32) (o : Int32) (t1 : Int32 × Int32) (e_t1 : f_Mo_give gi gn (f_Mo_reckoned f a b) = t1) (h1 : g = 0) : f_Mo_reckon ca va px gi gn f g a b o = (ca, va, t1.1, t1.2) := by
  subst e_t1
  exact (if_pos h1)
theorem f_Mo_reckon_e1 (ca : Int32) (va : Int32) (px : Int32) (gi : Int32) (gn : Int32) (f : Int32) (g : Int32) (a : Int32) (b : Int32) (o : Int32) (t2 : Int32 × Int32) (e_t2 : f_Mo_illegal ca va px = t2) (h1 : ¬ g = 0) (h6 : o = 0) (h49 : ¬ g = (32 : Int32)) : f_Mo_reckon ca va px gi gn f g a b o = (t2.1, t2.2, gi, gn) := by
  subst e_t2
  exact ((if_neg h1).trans ((if_pos h6).trans (if_neg h49)))
theorem f_Mo_reckon_e2 (ca : Int32) (va : Int32) (px : Int32) (gi : Int32) (gn : Int32) (f : Int32) (g : Int32) (a : Int32) (b : Int32) (o : Int32) (t3 : Int32 × Int32) (e_t3 : f_Mo_illegal ca va px = t3) (h1 : ¬ g = 0) (h6 : o = 0) (h49 : g = (32 : Int32)) (h54 : ¬ f = (5 : Int32)) (h78 : ¬ f = 0) : f_Mo_reckon ca va px gi gn f g a b o = (t3.1, t3.2, gi, gn) := by
  subst e_t3
  exact ((if_neg h1).trans ((if_pos h6).trans ((if_pos h49).trans ((if_neg h54).trans (if_neg h78)))))
theorem f_Mo_reckon_e3 (ca : Int32) (va : Int32) (px : Int32) (gi : Int32) (gn : Int32) (f : Int32) (g : Int32) (a : Int32) (b : Int32) (o : Int32) (t4 : Int32 × Int32) (e_t4 : f_Mo_give gi gn (a - b) = t4) (h1 : ¬ g = 0) (h6 : o = 0) (h49 : g = (32 : Int32)) (h54 : ¬ f = (5 : Int32)) (h78 : f = 0) : f_Mo_reckon ca va px gi gn f g a b o = (ca, va, t4.1, t4.2) := by
  subst e_t4
  exact ((if_neg h1).trans ((if_pos h6).trans ((if_pos h49).trans ((if_neg h54).trans (if_pos h78)))))
theorem f_Mo_reckon_e4 (ca : Int32) (va : Int32) (px : Int32) (gi : Int32) (gn : Int32) (f : Int32) (g : Int32) (a : Int32) (b : Int32) (o : Int32) (t5 : Int32 × Int32) (e_t5 : f_Mo_give gi gn (a >>> ((b &&& (31 : Int32)) &&& 31)) = t5) (h1 : ¬ g = 0) (h6 : o = 0) (h49 : g = (32 : Int32)) (h54 : f = (5 : Int32)) : f_Mo_reckon ca va px gi gn f g a b o = (ca, va, t5.1, t5.2) := by
  subst e_t5
  exact ((if_neg h1).trans ((if_pos h6).trans ((if_pos h49).trans (if_pos h54))))
theorem f_Mo_reckon_e5 (ca : Int32) (va : Int32) (px : Int32) (gi : Int32) (gn : Int32) (f : Int32) (g : Int32) (a : Int32) (b : Int32) (o : Int32) (t6 : Int32 × Int32) (e_t6 : f_Mo_illegal ca va px = t6) (h1 : ¬ g = 0) (h6 : ¬ o = 0) (h11 : f = (1 : Int32)) (h49 : ¬ g = (32 : Int32)) : f_Mo_reckon ca va px gi gn f g a b o = (t6.1, t6.2, gi, gn) := by
  subst e_t6
  exact ((if_neg h1).trans ((if_neg h6).trans ((if_pos h11).trans (if_neg h49))))
theorem f_Mo_reckon_e6 (ca : Int32) (va : Int32) (px : Int32) (gi : Int32) (gn : Int32) (f : Int32) (g : Int32) (a : Int32) (b : Int32) (o : Int32) (t7 : Int32 × Int32) (e_t7 : f_Mo_illegal ca va px = t7) (h1 : ¬ g = 0) (h6 : ¬ o = 0) (h11 : f = (1 : Int32)) (h49 : g = (32 : Int32)) (h54 : ¬ f = (5 : Int32)) (h78 : ¬ f = 0) : f_Mo_reckon ca va px gi gn f g a b o = (t7.1, t7.2, gi, gn) := by
  subst e_t7
  exact ((if_neg h1).trans ((if_neg h6).trans ((if_pos h11).trans ((if_pos h49).trans ((if_neg h54).trans (if_neg h78))))))
theorem f_Mo_reckon_e7 (ca : Int32) (va : Int32) (px : Int32) (gi : Int32) (gn : Int32) (f : Int32) (g : Int32) (a : Int32) (b : Int32) (o : Int32) (t8 : Int32 × Int32) (e_t8 : f_Mo_give gi gn (a - b) = t8) (h1 : ¬ g = 0) (h6 : ¬ o = 0) (h11 : f = (1 : Int32)) (h49 : g = (32 : Int32)) (h54 : ¬ f = (5 : Int32)) (h78 : f = 0) : f_Mo_reckon ca va px gi gn f g a b o = (ca, va, t8.1, t8.2) := by
  subst e_t8
  exact ((if_neg h1).trans ((if_neg h6).trans ((if_pos h11).trans ((if_pos h49).trans ((if_neg h54).trans (if_pos h78))))))
theorem f_Mo_reckon_e8 (ca : Int32) (va : Int32) (px : Int32) (gi : Int32) (gn : Int32) (f : Int32) (g : Int32) (a : Int32) (b : Int32) (o : Int32) (t9 : Int32 × Int32) (e_t9 : f_Mo_give gi gn (a >>> ((b &&& (31 : Int32)) &&& 31)) = t9) (h1 : ¬ g = 0) (h6 : ¬ o = 0) (h11 : f = (1 : Int32)) (h49 : g = (32 : Int32)) (h54 : f = (5 : Int32)) : f_Mo_reckon ca va px gi gn f g a b o = (ca, va, t9.1, t9.2) := by
  subst e_t9
  exact ((if_neg h1).trans ((if_neg h6).trans ((if_pos h11).trans ((if_pos h49).trans (if_pos h54)))))
theorem f_Mo_reckon_e9 (ca : Int32) (va : Int32) (px : Int32) (gi : Int32) (gn : Int32) (f : Int32) (g : Int32) (a : Int32) (b : Int32) (o : Int32) (t10 : Int32 × Int32) (e_t10 : f_Mo_illegal ca va px = t10) (h1 : ¬ g = 0) (h6 : ¬ o = 0) (h11 : ¬ f = (1 : Int32)) (h16 : f = (5 : Int32)) (h49 : ¬ g = (32 : Int32)) : f_Mo_reckon ca va px gi gn f g a b o = (t10.1, t10.2, gi, gn) := by
  subst e_t10
  exact ((if_neg h1).trans ((if_neg h6).trans ((if_neg h11).trans ((if_pos h16).trans (if_neg h49)))))
theorem f_Mo_reckon_e10 (ca : Int32) (va : Int32) (px : Int32) (gi : Int32) (gn : Int32) (f : Int32) (g : Int32) (a : Int32) (b : Int32) (o : Int32) (t11 : Int32 × Int32) (e_t11 : f_Mo_give gi gn (a >>> ((b &&& (31 : Int32)) &&& 31)) = t11) (h1 : ¬ g = 0) (h6 : ¬ o = 0) (h11 : ¬ f = (1 : Int32)) (h16 : f = (5 : Int32)) (h49 : g = (32 : Int32)) : f_Mo_reckon ca va px gi gn f g a b o = (ca, va, t11.1, t11.2) := by
  subst e_t11
  exact ((if_neg h1).trans ((if_neg h6).trans ((if_neg h11).trans ((if_pos h16).trans (if_pos h49)))))
theorem f_Mo_reckon_e11 (ca : Int32) (va : Int32) (px : Int32) (gi : Int32) (gn : Int32) (f : Int32) (g : Int32) (a : Int32) (b : Int32) (o : Int32) (t12 : Int32 × Int32) (e_t12 : f_Mo_give gi gn (f_Mo_reckoned f a b) = t12) (h1 : ¬ g = 0) (h6 : ¬ o = 0) (h11 : ¬ f = (1 : Int32)) (h16 : ¬ f = (5 : Int32)) : f_Mo_reckon ca va px gi gn f g a b o = (ca, va, t12.1, t12.2) := by
  subst e_t12
  exact ((if_neg h1).trans ((if_neg h6).trans ((if_neg h11).trans (if_neg h16))))
set_option maxHeartbeats 4000000 in
set_option maxRecDepth 100000 in
theorem c_Mo_reckon (l : Launch) (D : va_G) (cI cL : ClassId) (b0 b1 b2 b3 b4 b5 b6 b7 : Nat) (sz : Nat) (ev : Int32) (wr : Nat → Int32) (wg : Nat → Int64) (ke : Nat → Int32) (ma : Nat → Int32) (li : Nat → Int64) (ps : Int32) (pn : Nat → Int32) (cy : Int32) (ca : Int32) (va : Int32) (cn : Nat → Int32) (pp : Int32) (px : Int32) (go : Int32) (ne : Int32) (gi : Int32) (gn : Int32) (f : Int32) (g : Int32) (a : Int32) (b : Int32) (o : Int32)  : Met l y_Mo_reckon w_Mo_reckon ({ frames := 2, cells := 0, slots := 0, locals := 45 }) (va_Pc [.ref b0, .int f, .int g, .int a, .int b, .int o] (PW D cI cL (W_Mo cI cL b0 b1 b2 b3 b4 b5 b6 b7 ev wr wg ke ma li ps pn cy ca va cn pp px go ne gi gn) sz)) (q_Mo_reckon D cI cL b0 b1 b2 b3 b4 b5 b6 b7 (va_A (W_Mo cI cL b0 b1 b2 b3 b4 b5 b6 b7 ev wr wg ke ma li ps pn cy ca va cn pp px go ne gi gn) sz) ev wr wg ke ma li ps pn cy ca va cn pp px go ne gi gn (f_Mo_reckon ca va px gi gn f g a b o)) 0 0 (va_A (W_Mo cI cL b0 b1 b2 b3 b4 b5 b6 b7 ev wr wg ke ma li ps pn cy ca va cn pp px go ne gi gn) sz) := by
  refine mk_met (Qf := fun A => q_Mo_reckon D cI cL b0 b1 b2 b3 b4 b5 b6 b7 A ev wr wg ke ma li ps pn cy ca va cn pp px go ne gi gn (f_Mo_reckon ca va px gi gn f g a b o)) (by decide) (Nat.le_of_ble_eq_true rfl) ?_
  intro p e s m below meth c A ls hx hb hr hlocks hml hown hg hK hN hT hA hP hD hS hnm hl
  refine lv_iload_n hx hb d_Mo_reckon_0 rfl (lv_at hl 2 rfl) ?_
  refine lv_if_eq (tgt := 19) hx hb d_Mo_reckon_1 (by decide) (fun h1 => ?_) (fun h1 => ?_)
  · refine lv_iconst (v := 1) hx hb d_Mo_reckon_19 (by decide) ?_
    refine lv_goto (tgt := 24) hx hb d_Mo_reckon_20 (by decide) ?_
    refine lv_istore (lv' := [(6, .int _), (0, .ref _), (1, .int _), (2, .int _), (3, .int _), (4, .int _), (5, .int _)]) hx hb d_Mo_reckon_24 hl (by decide) rfl (fun ls hl => ?_)
    refine lv_iload hx hb d_Mo_reckon_26 (lv_at hl 0 rfl) ?_
    refine lv_if_eq (tgt := 46) hx hb d_Mo_reckon_28 (by decide) (fun h => absurd h (by decide)) (fun _ => ?_)
    refine lv_aload_n hx hb d_Mo_reckon_31 rfl (lv_at hl 1 rfl) ?_
    refine lv_aload_n hx hb d_Mo_reckon_32 rfl (lv_at hl 1 rfl) ?_
    refine lv_iload_n hx hb d_Mo_reckon_33 rfl (lv_at hl 2 rfl) ?_
    refine lv_iload_n hx hb d_Mo_reckon_34 rfl (lv_at hl 4 rfl) ?_
    refine lv_iload hx hb d_Mo_reckon_35 (lv_at hl 5 rfl) ?_
    refine cj_i (wc := (W_Mo cI cL b0 b1 b2 b3 b4 b5 b6 b7 ev wr wg ke ma li ps pn cy ca va cn pp px go ne gi gn)) (w1 := (W_Mo cI cL b0 b1 b2 b3 b4 b5 b6 b7 ev wr wg ke ma li ps pn cy ca va cn pp px go ne gi gn)) hP hD hS hA [0, 1, 2, 3, 4, 5, 6, 7] rfl [b0, b1, b2, b3, b4, b5, b6, b7] rfl rfl (va_runV (rest := [.ref _]) ⟨hx, hb, hml, hown, hg⟩ (c_Mo_reckoned l D cI cL b0 b1 b2 b3 b4 b5 b6 b7 _ ev wr wg ke ma li ps pn cy ca va cn pp px go ne gi gn f a b) ⟨callB_of 3 hg (gw_good m_705) rfl rfl rfl (hg _ m_71) (hg _ m_702) hd_Mo_reckoned ⟨Nat.le_of_ble_eq_true rfl, Nat.le_of_ble_eq_true rfl⟩, hg _ m_704, hg _ m_61⟩ (pw_V hK hN hT hA hP hD hS [0, 1, 2, 3, 4, 5, 6, 7] rfl (by decide) (q0 := 0) (ci := 5) rfl rfl) rfl rfl hl.1 rfl (lv_room (Nat.le_of_ble_eq_true rfl)) d_Mo_reckon_37 ⟨Nat.le_of_ble_eq_true rfl, Nat.le_of_ble_eq_true rfl⟩) (fun H locs hP hD hS => ?_)
    have hP : va_P D classes (W_Mo cI cL b0 b1 b2 b3 b4 b5 b6 b7 ev wr wg ke ma li ps pn cy ca va cn pp px go ne gi gn) H := hP
    have hD : va_D A (W_Mo cI cL b0 b1 b2 b3 b4 b5 b6 b7 ev wr wg ke ma li ps pn cy ca va cn pp px go ne gi gn) := hD
    refine cj_v (wc := (W_Mo cI cL b0 b1 b2 b3 b4 b5 b6 b7 ev wr wg ke ma li ps pn cy ca va cn pp px go ne gi gn)) (w1 := (W_Mo cI cL b0 b1 b2 b3 b4 b5 b6 b7 ev wr wg ke ma li ps pn cy ca va cn pp px go ne ((f_Mo_give gi gn (f_Mo_reckoned f a b)).1) ((f_Mo_give gi gn (f_Mo_reckoned f a b)).2))) hP hD hS hA [0, 1, 2, 3, 4, 5, 6, 7] rfl [b0, b1, b2, b3, b4, b5, b6, b7] rfl rfl (va_runV (rest := []) ⟨hx, hb, hml, hown, hg⟩ (c_Mo_give l D cI cL b0 b1 b2 b3 b4 b5 b6 b7 _ ev wr wg ke ma li ps pn cy ca va cn pp px go ne gi gn (f_Mo_reckoned f a b)) ⟨callB_of 1 hg (gw_good m_645) rfl rfl rfl (hg _ m_71) (hg _ m_642) hd_Mo_give ⟨Nat.le_of_ble_eq_true rfl, Nat.le_of_ble_eq_true rfl⟩, hg _ m_644, hg _ m_47⟩ (pw_V hK hN hT hA hP hD hS [0, 1, 2, 3, 4, 5, 6, 7] rfl (by decide) (q0 := 0) (ci := 5) rfl rfl) rfl rfl hl.1 rfl (lv_room (Nat.le_of_ble_eq_true rfl)) d_Mo_reckon_40 ⟨Nat.le_of_ble_eq_true rfl, Nat.le_of_ble_eq_true rfl⟩) (fun H locs hP hD hS => ?_)
    have hP : va_P D classes (W_Mo cI cL b0 b1 b2 b3 b4 b5 b6 b7 ev wr wg ke ma li ps pn cy ca va cn pp px go ne ((f_Mo_give gi gn (f_Mo_reckoned f a b)).1) ((f_Mo_give gi gn (f_Mo_reckoned f a b)).2)) H := hP
    have hD : va_D A (W_Mo cI cL b0 b1 b2 b3 b4 b5 b6 b7 ev wr wg ke ma li ps pn cy ca va cn pp px go ne ((f_Mo_give gi gn (f_Mo_reckoned f a b)).1) ((f_Mo_give gi gn (f_Mo_reckoned f a b)).2)) := hD
    generalize e_t1 : f_Mo_give gi gn (f_Mo_reckoned f a b) = t1 at hP hD ⊢
    refine lv_goto (tgt := 96) hx hb d_Mo_reckon_43 (by decide) ?_
    rw [f_Mo_reckon_e0 ca va px gi gn f g a b o t1 e_t1 h1]
    exact W.vret hx hb hr (fun t ht hW => ⟨⟨(), rfl, trivial, by show va_P D classes _ t.heap; rw [ht]; exact hP⟩, hS.F ht⟩) hS.2.2 d_Mo_reckon_96 hlocks
  · refine lv_iload hx hb d_Mo_reckon_4 (lv_at hl 5 rfl) ?_
    refine lv_if_eq (tgt := 23) hx hb d_Mo_reckon_6 (by decide) (fun h6 => ?_) (fun h6 => ?_)
    · refine lv_iconst (v := 0) hx hb d_Mo_reckon_23 (by decide) ?_
      refine lv_istore (lv' := [(6, .int _), (0, .ref _), (1, .int _), (2, .int _), (3, .int _), (4, .int _), (5, .int _)]) hx hb d_Mo_reckon_24 hl (by decide) rfl (fun ls hl => ?_)
      refine lv_iload hx hb d_Mo_reckon_26 (lv_at hl 0 rfl) ?_
      refine lv_if_eq (tgt := 46) hx hb d_Mo_reckon_28 (by decide) (fun _ => ?_) (fun h => absurd (by decide) h)
      refine lv_iload_n hx hb d_Mo_reckon_46 rfl (lv_at hl 3 rfl) ?_
      refine lv_bipush (v := 32) hx hb d_Mo_reckon_47 (by decide) ?_
      refine lv_icmp_ne (tgt := 71) hx hb d_Mo_reckon_49 (by decide) (fun h49 => ?_) (fun h49 => ?_)
      · refine lv_iload_n hx hb d_Mo_reckon_71 rfl (lv_at hl 3 rfl) ?_
        refine lv_bipush (v := 32) hx hb d_Mo_reckon_72 (by decide) ?_
        refine lv_icmp_ne (tgt := 92) hx hb d_Mo_reckon_74 (by decide) (fun _ => ?_) (fun h => absurd h h49)
        refine lv_aload_n hx hb d_Mo_reckon_92 rfl (lv_at hl 1 rfl) ?_
        refine cj_v (wc := (W_Mo cI cL b0 b1 b2 b3 b4 b5 b6 b7 ev wr wg ke ma li ps pn cy ca va cn pp px go ne gi gn)) (w1 := (W_Mo cI cL b0 b1 b2 b3 b4 b5 b6 b7 ev wr wg ke ma li ps pn cy ((f_Mo_illegal ca va px).1) ((f_Mo_illegal ca va px).2) cn pp px go ne gi gn)) hP hD hS hA [0, 1, 2, 3, 4, 5, 6, 7] rfl [b0, b1, b2, b3, b4, b5, b6, b7] rfl rfl (va_runV (rest := []) ⟨hx, hb, hml, hown, hg⟩ (c_Mo_illegal l D cI cL b0 b1 b2 b3 b4 b5 b6 b7 _ ev wr wg ke ma li ps pn cy ca va cn pp px go ne gi gn) ⟨callB_of 0 hg (gw_good m_661) rfl rfl rfl (hg _ m_71) (hg _ m_658) hd_Mo_illegal ⟨Nat.le_of_ble_eq_true rfl, Nat.le_of_ble_eq_true rfl⟩, hg _ m_660, hg _ m_51⟩ (pw_V hK hN hT hA hP hD hS [0, 1, 2, 3, 4, 5, 6, 7] rfl (by decide) (q0 := 0) (ci := 5) rfl rfl) rfl rfl hl.1 rfl (lv_room (Nat.le_of_ble_eq_true rfl)) d_Mo_reckon_93 ⟨Nat.le_of_ble_eq_true rfl, Nat.le_of_ble_eq_true rfl⟩) (fun H locs hP hD hS => ?_)
        have hP : va_P D classes (W_Mo cI cL b0 b1 b2 b3 b4 b5 b6 b7 ev wr wg ke ma li ps pn cy ((f_Mo_illegal ca va px).1) ((f_Mo_illegal ca va px).2) cn pp px go ne gi gn) H := hP
        have hD : va_D A (W_Mo cI cL b0 b1 b2 b3 b4 b5 b6 b7 ev wr wg ke ma li ps pn cy ((f_Mo_illegal ca va px).1) ((f_Mo_illegal ca va px).2) cn pp px go ne gi gn) := hD
        generalize e_t2 : f_Mo_illegal ca va px = t2 at hP hD ⊢
        rw [f_Mo_reckon_e1 ca va px gi gn f g a b o t2 e_t2 h1 h6 h49]
        exact W.vret hx hb hr (fun t ht hW => ⟨⟨(), rfl, trivial, by show va_P D classes _ t.heap; rw [ht]; exact hP⟩, hS.F ht⟩) hS.2.2 d_Mo_reckon_96 hlocks
      · refine lv_iload_n hx hb d_Mo_reckon_52 rfl (lv_at hl 2 rfl) ?_
        refine lv_iconst (v := 5) hx hb d_Mo_reckon_53 (by decide) ?_
        refine lv_icmp_ne (tgt := 71) hx hb d_Mo_reckon_54 (by decide) (fun h54 => ?_) (fun h54 => ?_)
        · refine lv_iload_n hx hb d_Mo_reckon_71 rfl (lv_at hl 3 rfl) ?_
          refine lv_bipush (v := 32) hx hb d_Mo_reckon_72 (by decide) ?_
          refine lv_icmp_ne (tgt := 92) hx hb d_Mo_reckon_74 (by decide) (fun h => absurd h49 h) (fun _ => ?_)
          refine lv_iload_n hx hb d_Mo_reckon_77 rfl (lv_at hl 2 rfl) ?_
          refine lv_if_ne (tgt := 92) hx hb d_Mo_reckon_78 (by decide) (fun h78 => ?_) (fun h78 => ?_)
          · refine lv_aload_n hx hb d_Mo_reckon_92 rfl (lv_at hl 1 rfl) ?_
            refine cj_v (wc := (W_Mo cI cL b0 b1 b2 b3 b4 b5 b6 b7 ev wr wg ke ma li ps pn cy ca va cn pp px go ne gi gn)) (w1 := (W_Mo cI cL b0 b1 b2 b3 b4 b5 b6 b7 ev wr wg ke ma li ps pn cy ((f_Mo_illegal ca va px).1) ((f_Mo_illegal ca va px).2) cn pp px go ne gi gn)) hP hD hS hA [0, 1, 2, 3, 4, 5, 6, 7] rfl [b0, b1, b2, b3, b4, b5, b6, b7] rfl rfl (va_runV (rest := []) ⟨hx, hb, hml, hown, hg⟩ (c_Mo_illegal l D cI cL b0 b1 b2 b3 b4 b5 b6 b7 _ ev wr wg ke ma li ps pn cy ca va cn pp px go ne gi gn) ⟨callB_of 0 hg (gw_good m_661) rfl rfl rfl (hg _ m_71) (hg _ m_658) hd_Mo_illegal ⟨Nat.le_of_ble_eq_true rfl, Nat.le_of_ble_eq_true rfl⟩, hg _ m_660, hg _ m_51⟩ (pw_V hK hN hT hA hP hD hS [0, 1, 2, 3, 4, 5, 6, 7] rfl (by decide) (q0 := 0) (ci := 5) rfl rfl) rfl rfl hl.1 rfl (lv_room (Nat.le_of_ble_eq_true rfl)) d_Mo_reckon_93 ⟨Nat.le_of_ble_eq_true rfl, Nat.le_of_ble_eq_true rfl⟩) (fun H locs hP hD hS => ?_)
            have hP : va_P D classes (W_Mo cI cL b0 b1 b2 b3 b4 b5 b6 b7 ev wr wg ke ma li ps pn cy ((f_Mo_illegal ca va px).1) ((f_Mo_illegal ca va px).2) cn pp px go ne gi gn) H := hP
            have hD : va_D A (W_Mo cI cL b0 b1 b2 b3 b4 b5 b6 b7 ev wr wg ke ma li ps pn cy ((f_Mo_illegal ca va px).1) ((f_Mo_illegal ca va px).2) cn pp px go ne gi gn) := hD
            generalize e_t3 : f_Mo_illegal ca va px = t3 at hP hD ⊢
            rw [f_Mo_reckon_e2 ca va px gi gn f g a b o t3 e_t3 h1 h6 h49 h54 h78]
            exact W.vret hx hb hr (fun t ht hW => ⟨⟨(), rfl, trivial, by show va_P D classes _ t.heap; rw [ht]; exact hP⟩, hS.F ht⟩) hS.2.2 d_Mo_reckon_96 hlocks
          · refine lv_aload_n hx hb d_Mo_reckon_81 rfl (lv_at hl 1 rfl) ?_
            refine lv_iload_n hx hb d_Mo_reckon_82 rfl (lv_at hl 4 rfl) ?_
            refine lv_iload hx hb d_Mo_reckon_83 (lv_at hl 5 rfl) ?_
            refine lv_isub hx hb d_Mo_reckon_85 ?_
            refine cj_v (wc := (W_Mo cI cL b0 b1 b2 b3 b4 b5 b6 b7 ev wr wg ke ma li ps pn cy ca va cn pp px go ne gi gn)) (w1 := (W_Mo cI cL b0 b1 b2 b3 b4 b5 b6 b7 ev wr wg ke ma li ps pn cy ca va cn pp px go ne ((f_Mo_give gi gn (a - b)).1) ((f_Mo_give gi gn (a - b)).2))) hP hD hS hA [0, 1, 2, 3, 4, 5, 6, 7] rfl [b0, b1, b2, b3, b4, b5, b6, b7] rfl rfl (va_runV (rest := []) ⟨hx, hb, hml, hown, hg⟩ (c_Mo_give l D cI cL b0 b1 b2 b3 b4 b5 b6 b7 _ ev wr wg ke ma li ps pn cy ca va cn pp px go ne gi gn (a - b)) ⟨callB_of 1 hg (gw_good m_645) rfl rfl rfl (hg _ m_71) (hg _ m_642) hd_Mo_give ⟨Nat.le_of_ble_eq_true rfl, Nat.le_of_ble_eq_true rfl⟩, hg _ m_644, hg _ m_47⟩ (pw_V hK hN hT hA hP hD hS [0, 1, 2, 3, 4, 5, 6, 7] rfl (by decide) (q0 := 0) (ci := 5) rfl rfl) rfl rfl hl.1 rfl (lv_room (Nat.le_of_ble_eq_true rfl)) d_Mo_reckon_86 ⟨Nat.le_of_ble_eq_true rfl, Nat.le_of_ble_eq_true rfl⟩) (fun H locs hP hD hS => ?_)
            have hP : va_P D classes (W_Mo cI cL b0 b1 b2 b3 b4 b5 b6 b7 ev wr wg ke ma li ps pn cy ca va cn pp px go ne ((f_Mo_give gi gn (a - b)).1) ((f_Mo_give gi gn (a - b)).2)) H := hP
            have hD : va_D A (W_Mo cI cL b0 b1 b2 b3 b4 b5 b6 b7 ev wr wg ke ma li ps pn cy ca va cn pp px go ne ((f_Mo_give gi gn (a - b)).1) ((f_Mo_give gi gn (a - b)).2)) := hD
            generalize e_t4 : f_Mo_give gi gn (a - b) = t4 at hP hD ⊢
            refine lv_goto (tgt := 96) hx hb d_Mo_reckon_89 (by decide) ?_
            rw [f_Mo_reckon_e3 ca va px gi gn f g a b o t4 e_t4 h1 h6 h49 h54 h78]
            exact W.vret hx hb hr (fun t ht hW => ⟨⟨(), rfl, trivial, by show va_P D classes _ t.heap; rw [ht]; exact hP⟩, hS.F ht⟩) hS.2.2 d_Mo_reckon_96 hlocks
        · refine lv_aload_n hx hb d_Mo_reckon_57 rfl (lv_at hl 1 rfl) ?_
          refine lv_iload_n hx hb d_Mo_reckon_58 rfl (lv_at hl 4 rfl) ?_
          refine lv_iload hx hb d_Mo_reckon_59 (lv_at hl 5 rfl) ?_
          refine lv_bipush (v := 31) hx hb d_Mo_reckon_61 (by decide) ?_
          refine lv_iand hx hb d_Mo_reckon_63 ?_
          refine lv_ishr hx hb d_Mo_reckon_64 ?_
          refine cj_v (wc := (W_Mo cI cL b0 b1 b2 b3 b4 b5 b6 b7 ev wr wg ke ma li ps pn cy ca va cn pp px go ne gi gn)) (w1 := (W_Mo cI cL b0 b1 b2 b3 b4 b5 b6 b7 ev wr wg ke ma li ps pn cy ca va cn pp px go ne ((f_Mo_give gi gn (a >>> ((b &&& (31 : Int32)) &&& 31))).1) ((f_Mo_give gi gn (a >>> ((b &&& (31 : Int32)) &&& 31))).2))) hP hD hS hA [0, 1, 2, 3, 4, 5, 6, 7] rfl [b0, b1, b2, b3, b4, b5, b6, b7] rfl rfl (va_runV (rest := []) ⟨hx, hb, hml, hown, hg⟩ (c_Mo_give l D cI cL b0 b1 b2 b3 b4 b5 b6 b7 _ ev wr wg ke ma li ps pn cy ca va cn pp px go ne gi gn (a >>> ((b &&& (31 : Int32)) &&& 31))) ⟨callB_of 1 hg (gw_good m_645) rfl rfl rfl (hg _ m_71) (hg _ m_642) hd_Mo_give ⟨Nat.le_of_ble_eq_true rfl, Nat.le_of_ble_eq_true rfl⟩, hg _ m_644, hg _ m_47⟩ (pw_V hK hN hT hA hP hD hS [0, 1, 2, 3, 4, 5, 6, 7] rfl (by decide) (q0 := 0) (ci := 5) rfl rfl) rfl rfl hl.1 rfl (lv_room (Nat.le_of_ble_eq_true rfl)) d_Mo_reckon_65 ⟨Nat.le_of_ble_eq_true rfl, Nat.le_of_ble_eq_true rfl⟩) (fun H locs hP hD hS => ?_)
          have hP : va_P D classes (W_Mo cI cL b0 b1 b2 b3 b4 b5 b6 b7 ev wr wg ke ma li ps pn cy ca va cn pp px go ne ((f_Mo_give gi gn (a >>> ((b &&& (31 : Int32)) &&& 31))).1) ((f_Mo_give gi gn (a >>> ((b &&& (31 : Int32)) &&& 31))).2)) H := hP
          have hD : va_D A (W_Mo cI cL b0 b1 b2 b3 b4 b5 b6 b7 ev wr wg ke ma li ps pn cy ca va cn pp px go ne ((f_Mo_give gi gn (a >>> ((b &&& (31 : Int32)) &&& 31))).1) ((f_Mo_give gi gn (a >>> ((b &&& (31 : Int32)) &&& 31))).2)) := hD
          generalize e_t5 : f_Mo_give gi gn (a >>> ((b &&& (31 : Int32)) &&& 31)) = t5 at hP hD ⊢
          refine lv_goto (tgt := 96) hx hb d_Mo_reckon_68 (by decide) ?_
          rw [f_Mo_reckon_e4 ca va px gi gn f g a b o t5 e_t5 h1 h6 h49 h54]
          exact W.vret hx hb hr (fun t ht hW => ⟨⟨(), rfl, trivial, by show va_P D classes _ t.heap; rw [ht]; exact hP⟩, hS.F ht⟩) hS.2.2 d_Mo_reckon_96 hlocks
    · refine lv_iload_n hx hb d_Mo_reckon_9 rfl (lv_at hl 1 rfl) ?_
      refine lv_iconst (v := 1) hx hb d_Mo_reckon_10 (by decide) ?_
      refine lv_icmp_eq (tgt := 23) hx hb d_Mo_reckon_11 (by decide) (fun h11 => ?_) (fun h11 => ?_)
      · refine lv_iconst (v := 0) hx hb d_Mo_reckon_23 (by decide) ?_
        refine lv_istore (lv' := [(6, .int _), (0, .ref _), (1, .int _), (2, .int _), (3, .int _), (4, .int _), (5, .int _)]) hx hb d_Mo_reckon_24 hl (by decide) rfl (fun ls hl => ?_)
        refine lv_iload hx hb d_Mo_reckon_26 (lv_at hl 0 rfl) ?_
        refine lv_if_eq (tgt := 46) hx hb d_Mo_reckon_28 (by decide) (fun _ => ?_) (fun h => absurd (by decide) h)
        refine lv_iload_n hx hb d_Mo_reckon_46 rfl (lv_at hl 3 rfl) ?_
        refine lv_bipush (v := 32) hx hb d_Mo_reckon_47 (by decide) ?_
        refine lv_icmp_ne (tgt := 71) hx hb d_Mo_reckon_49 (by decide) (fun h49 => ?_) (fun h49 => ?_)
        · refine lv_iload_n hx hb d_Mo_reckon_71 rfl (lv_at hl 3 rfl) ?_
          refine lv_bipush (v := 32) hx hb d_Mo_reckon_72 (by decide) ?_
          refine lv_icmp_ne (tgt := 92) hx hb d_Mo_reckon_74 (by decide) (fun _ => ?_) (fun h => absurd h h49)
          refine lv_aload_n hx hb d_Mo_reckon_92 rfl (lv_at hl 1 rfl) ?_
          refine cj_v (wc := (W_Mo cI cL b0 b1 b2 b3 b4 b5 b6 b7 ev wr wg ke ma li ps pn cy ca va cn pp px go ne gi gn)) (w1 := (W_Mo cI cL b0 b1 b2 b3 b4 b5 b6 b7 ev wr wg ke ma li ps pn cy ((f_Mo_illegal ca va px).1) ((f_Mo_illegal ca va px).2) cn pp px go ne gi gn)) hP hD hS hA [0, 1, 2, 3, 4, 5, 6, 7] rfl [b0, b1, b2, b3, b4, b5, b6, b7] rfl rfl (va_runV (rest := []) ⟨hx, hb, hml, hown, hg⟩ (c_Mo_illegal l D cI cL b0 b1 b2 b3 b4 b5 b6 b7 _ ev wr wg ke ma li ps pn cy ca va cn pp px go ne gi gn) ⟨callB_of 0 hg (gw_good m_661) rfl rfl rfl (hg _ m_71) (hg _ m_658) hd_Mo_illegal ⟨Nat.le_of_ble_eq_true rfl, Nat.le_of_ble_eq_true rfl⟩, hg _ m_660, hg _ m_51⟩ (pw_V hK hN hT hA hP hD hS [0, 1, 2, 3, 4, 5, 6, 7] rfl (by decide) (q0 := 0) (ci := 5) rfl rfl) rfl rfl hl.1 rfl (lv_room (Nat.le_of_ble_eq_true rfl)) d_Mo_reckon_93 ⟨Nat.le_of_ble_eq_true rfl, Nat.le_of_ble_eq_true rfl⟩) (fun H locs hP hD hS => ?_)
          have hP : va_P D classes (W_Mo cI cL b0 b1 b2 b3 b4 b5 b6 b7 ev wr wg ke ma li ps pn cy ((f_Mo_illegal ca va px).1) ((f_Mo_illegal ca va px).2) cn pp px go ne gi gn) H := hP
          have hD : va_D A (W_Mo cI cL b0 b1 b2 b3 b4 b5 b6 b7 ev wr wg ke ma li ps pn cy ((f_Mo_illegal ca va px).1) ((f_Mo_illegal ca va px).2) cn pp px go ne gi gn) := hD
          generalize e_t6 : f_Mo_illegal ca va px = t6 at hP hD ⊢
          rw [f_Mo_reckon_e5 ca va px gi gn f g a b o t6 e_t6 h1 h6 h11 h49]
          exact W.vret hx hb hr (fun t ht hW => ⟨⟨(), rfl, trivial, by show va_P D classes _ t.heap; rw [ht]; exact hP⟩, hS.F ht⟩) hS.2.2 d_Mo_reckon_96 hlocks
        · refine lv_iload_n hx hb d_Mo_reckon_52 rfl (lv_at hl 2 rfl) ?_
          refine lv_iconst (v := 5) hx hb d_Mo_reckon_53 (by decide) ?_
          refine lv_icmp_ne (tgt := 71) hx hb d_Mo_reckon_54 (by decide) (fun h54 => ?_) (fun h54 => ?_)
          · refine lv_iload_n hx hb d_Mo_reckon_71 rfl (lv_at hl 3 rfl) ?_
            refine lv_bipush (v := 32) hx hb d_Mo_reckon_72 (by decide) ?_
            refine lv_icmp_ne (tgt := 92) hx hb d_Mo_reckon_74 (by decide) (fun h => absurd h49 h) (fun _ => ?_)
            refine lv_iload_n hx hb d_Mo_reckon_77 rfl (lv_at hl 2 rfl) ?_
            refine lv_if_ne (tgt := 92) hx hb d_Mo_reckon_78 (by decide) (fun h78 => ?_) (fun h78 => ?_)
            · refine lv_aload_n hx hb d_Mo_reckon_92 rfl (lv_at hl 1 rfl) ?_
              refine cj_v (wc := (W_Mo cI cL b0 b1 b2 b3 b4 b5 b6 b7 ev wr wg ke ma li ps pn cy ca va cn pp px go ne gi gn)) (w1 := (W_Mo cI cL b0 b1 b2 b3 b4 b5 b6 b7 ev wr wg ke ma li ps pn cy ((f_Mo_illegal ca va px).1) ((f_Mo_illegal ca va px).2) cn pp px go ne gi gn)) hP hD hS hA [0, 1, 2, 3, 4, 5, 6, 7] rfl [b0, b1, b2, b3, b4, b5, b6, b7] rfl rfl (va_runV (rest := []) ⟨hx, hb, hml, hown, hg⟩ (c_Mo_illegal l D cI cL b0 b1 b2 b3 b4 b5 b6 b7 _ ev wr wg ke ma li ps pn cy ca va cn pp px go ne gi gn) ⟨callB_of 0 hg (gw_good m_661) rfl rfl rfl (hg _ m_71) (hg _ m_658) hd_Mo_illegal ⟨Nat.le_of_ble_eq_true rfl, Nat.le_of_ble_eq_true rfl⟩, hg _ m_660, hg _ m_51⟩ (pw_V hK hN hT hA hP hD hS [0, 1, 2, 3, 4, 5, 6, 7] rfl (by decide) (q0 := 0) (ci := 5) rfl rfl) rfl rfl hl.1 rfl (lv_room (Nat.le_of_ble_eq_true rfl)) d_Mo_reckon_93 ⟨Nat.le_of_ble_eq_true rfl, Nat.le_of_ble_eq_true rfl⟩) (fun H locs hP hD hS => ?_)
              have hP : va_P D classes (W_Mo cI cL b0 b1 b2 b3 b4 b5 b6 b7 ev wr wg ke ma li ps pn cy ((f_Mo_illegal ca va px).1) ((f_Mo_illegal ca va px).2) cn pp px go ne gi gn) H := hP
              have hD : va_D A (W_Mo cI cL b0 b1 b2 b3 b4 b5 b6 b7 ev wr wg ke ma li ps pn cy ((f_Mo_illegal ca va px).1) ((f_Mo_illegal ca va px).2) cn pp px go ne gi gn) := hD
              generalize e_t7 : f_Mo_illegal ca va px = t7 at hP hD ⊢
              rw [f_Mo_reckon_e6 ca va px gi gn f g a b o t7 e_t7 h1 h6 h11 h49 h54 h78]
              exact W.vret hx hb hr (fun t ht hW => ⟨⟨(), rfl, trivial, by show va_P D classes _ t.heap; rw [ht]; exact hP⟩, hS.F ht⟩) hS.2.2 d_Mo_reckon_96 hlocks
            · refine lv_aload_n hx hb d_Mo_reckon_81 rfl (lv_at hl 1 rfl) ?_
              refine lv_iload_n hx hb d_Mo_reckon_82 rfl (lv_at hl 4 rfl) ?_
              refine lv_iload hx hb d_Mo_reckon_83 (lv_at hl 5 rfl) ?_
              refine lv_isub hx hb d_Mo_reckon_85 ?_
              refine cj_v (wc := (W_Mo cI cL b0 b1 b2 b3 b4 b5 b6 b7 ev wr wg ke ma li ps pn cy ca va cn pp px go ne gi gn)) (w1 := (W_Mo cI cL b0 b1 b2 b3 b4 b5 b6 b7 ev wr wg ke ma li ps pn cy ca va cn pp px go ne ((f_Mo_give gi gn (a - b)).1) ((f_Mo_give gi gn (a - b)).2))) hP hD hS hA [0, 1, 2, 3, 4, 5, 6, 7] rfl [b0, b1, b2, b3, b4, b5, b6, b7] rfl rfl (va_runV (rest := []) ⟨hx, hb, hml, hown, hg⟩ (c_Mo_give l D cI cL b0 b1 b2 b3 b4 b5 b6 b7 _ ev wr wg ke ma li ps pn cy ca va cn pp px go ne gi gn (a - b)) ⟨callB_of 1 hg (gw_good m_645) rfl rfl rfl (hg _ m_71) (hg _ m_642) hd_Mo_give ⟨Nat.le_of_ble_eq_true rfl, Nat.le_of_ble_eq_true rfl⟩, hg _ m_644, hg _ m_47⟩ (pw_V hK hN hT hA hP hD hS [0, 1, 2, 3, 4, 5, 6, 7] rfl (by decide) (q0 := 0) (ci := 5) rfl rfl) rfl rfl hl.1 rfl (lv_room (Nat.le_of_ble_eq_true rfl)) d_Mo_reckon_86 ⟨Nat.le_of_ble_eq_true rfl, Nat.le_of_ble_eq_true rfl⟩) (fun H locs hP hD hS => ?_)
              have hP : va_P D classes (W_Mo cI cL b0 b1 b2 b3 b4 b5 b6 b7 ev wr wg ke ma li ps pn cy ca va cn pp px go ne ((f_Mo_give gi gn (a - b)).1) ((f_Mo_give gi gn (a - b)).2)) H := hP
              have hD : va_D A (W_Mo cI cL b0 b1 b2 b3 b4 b5 b6 b7 ev wr wg ke ma li ps pn cy ca va cn pp px go ne ((f_Mo_give gi gn (a - b)).1) ((f_Mo_give gi gn (a - b)).2)) := hD
              generalize e_t8 : f_Mo_give gi gn (a - b) = t8 at hP hD ⊢
              refine lv_goto (tgt := 96) hx hb d_Mo_reckon_89 (by decide) ?_
              rw [f_Mo_reckon_e7 ca va px gi gn f g a b o t8 e_t8 h1 h6 h11 h49 h54 h78]
              exact W.vret hx hb hr (fun t ht hW => ⟨⟨(), rfl, trivial, by show va_P D classes _ t.heap; rw [ht]; exact hP⟩, hS.F ht⟩) hS.2.2 d_Mo_reckon_96 hlocks
          · refine lv_aload_n hx hb d_Mo_reckon_57 rfl (lv_at hl 1 rfl) ?_
            refine lv_iload_n hx hb d_Mo_reckon_58 rfl (lv_at hl 4 rfl) ?_
            refine lv_iload hx hb d_Mo_reckon_59 (lv_at hl 5 rfl) ?_
            refine lv_bipush (v := 31) hx hb d_Mo_reckon_61 (by decide) ?_
            refine lv_iand hx hb d_Mo_reckon_63 ?_
            refine lv_ishr hx hb d_Mo_reckon_64 ?_
            refine cj_v (wc := (W_Mo cI cL b0 b1 b2 b3 b4 b5 b6 b7 ev wr wg ke ma li ps pn cy ca va cn pp px go ne gi gn)) (w1 := (W_Mo cI cL b0 b1 b2 b3 b4 b5 b6 b7 ev wr wg ke ma li ps pn cy ca va cn pp px go ne ((f_Mo_give gi gn (a >>> ((b &&& (31 : Int32)) &&& 31))).1) ((f_Mo_give gi gn (a >>> ((b &&& (31 : Int32)) &&& 31))).2))) hP hD hS hA [0, 1, 2, 3, 4, 5, 6, 7] rfl [b0, b1, b2, b3, b4, b5, b6, b7] rfl rfl (va_runV (rest := []) ⟨hx, hb, hml, hown, hg⟩ (c_Mo_give l D cI cL b0 b1 b2 b3 b4 b5 b6 b7 _ ev wr wg ke ma li ps pn cy ca va cn pp px go ne gi gn (a >>> ((b &&& (31 : Int32)) &&& 31))) ⟨callB_of 1 hg (gw_good m_645) rfl rfl rfl (hg _ m_71) (hg _ m_642) hd_Mo_give ⟨Nat.le_of_ble_eq_true rfl, Nat.le_of_ble_eq_true rfl⟩, hg _ m_644, hg _ m_47⟩ (pw_V hK hN hT hA hP hD hS [0, 1, 2, 3, 4, 5, 6, 7] rfl (by decide) (q0 := 0) (ci := 5) rfl rfl) rfl rfl hl.1 rfl (lv_room (Nat.le_of_ble_eq_true rfl)) d_Mo_reckon_65 ⟨Nat.le_of_ble_eq_true rfl, Nat.le_of_ble_eq_true rfl⟩) (fun H locs hP hD hS => ?_)
            have hP : va_P D classes (W_Mo cI cL b0 b1 b2 b3 b4 b5 b6 b7 ev wr wg ke ma li ps pn cy ca va cn pp px go ne ((f_Mo_give gi gn (a >>> ((b &&& (31 : Int32)) &&& 31))).1) ((f_Mo_give gi gn (a >>> ((b &&& (31 : Int32)) &&& 31))).2)) H := hP
            have hD : va_D A (W_Mo cI cL b0 b1 b2 b3 b4 b5 b6 b7 ev wr wg ke ma li ps pn cy ca va cn pp px go ne ((f_Mo_give gi gn (a >>> ((b &&& (31 : Int32)) &&& 31))).1) ((f_Mo_give gi gn (a >>> ((b &&& (31 : Int32)) &&& 31))).2)) := hD
            generalize e_t9 : f_Mo_give gi gn (a >>> ((b &&& (31 : Int32)) &&& 31)) = t9 at hP hD ⊢
            refine lv_goto (tgt := 96) hx hb d_Mo_reckon_68 (by decide) ?_
            rw [f_Mo_reckon_e8 ca va px gi gn f g a b o t9 e_t9 h1 h6 h11 h49 h54]
            exact W.vret hx hb hr (fun t ht hW => ⟨⟨(), rfl, trivial, by show va_P D classes _ t.heap; rw [ht]; exact hP⟩, hS.F ht⟩) hS.2.2 d_Mo_reckon_96 hlocks
      · refine lv_iload_n hx hb d_Mo_reckon_14 rfl (lv_at hl 1 rfl) ?_
        refine lv_iconst (v := 5) hx hb d_Mo_reckon_15 (by decide) ?_
        refine lv_icmp_eq (tgt := 23) hx hb d_Mo_reckon_16 (by decide) (fun h16 => ?_) (fun h16 => ?_)
        · refine lv_iconst (v := 0) hx hb d_Mo_reckon_23 (by decide) ?_
          refine lv_istore (lv' := [(6, .int _), (0, .ref _), (1, .int _), (2, .int _), (3, .int _), (4, .int _), (5, .int _)]) hx hb d_Mo_reckon_24 hl (by decide) rfl (fun ls hl => ?_)
          refine lv_iload hx hb d_Mo_reckon_26 (lv_at hl 0 rfl) ?_
          refine lv_if_eq (tgt := 46) hx hb d_Mo_reckon_28 (by decide) (fun _ => ?_) (fun h => absurd (by decide) h)
          refine lv_iload_n hx hb d_Mo_reckon_46 rfl (lv_at hl 3 rfl) ?_
          refine lv_bipush (v := 32) hx hb d_Mo_reckon_47 (by decide) ?_
          refine lv_icmp_ne (tgt := 71) hx hb d_Mo_reckon_49 (by decide) (fun h49 => ?_) (fun h49 => ?_)
          · refine lv_iload_n hx hb d_Mo_reckon_71 rfl (lv_at hl 3 rfl) ?_
            refine lv_bipush (v := 32) hx hb d_Mo_reckon_72 (by decide) ?_
            refine lv_icmp_ne (tgt := 92) hx hb d_Mo_reckon_74 (by decide) (fun _ => ?_) (fun h => absurd h h49)
            refine lv_aload_n hx hb d_Mo_reckon_92 rfl (lv_at hl 1 rfl) ?_
            refine cj_v (wc := (W_Mo cI cL b0 b1 b2 b3 b4 b5 b6 b7 ev wr wg ke ma li ps pn cy ca va cn pp px go ne gi gn)) (w1 := (W_Mo cI cL b0 b1 b2 b3 b4 b5 b6 b7 ev wr wg ke ma li ps pn cy ((f_Mo_illegal ca va px).1) ((f_Mo_illegal ca va px).2) cn pp px go ne gi gn)) hP hD hS hA [0, 1, 2, 3, 4, 5, 6, 7] rfl [b0, b1, b2, b3, b4, b5, b6, b7] rfl rfl (va_runV (rest := []) ⟨hx, hb, hml, hown, hg⟩ (c_Mo_illegal l D cI cL b0 b1 b2 b3 b4 b5 b6 b7 _ ev wr wg ke ma li ps pn cy ca va cn pp px go ne gi gn) ⟨callB_of 0 hg (gw_good m_661) rfl rfl rfl (hg _ m_71) (hg _ m_658) hd_Mo_illegal ⟨Nat.le_of_ble_eq_true rfl, Nat.le_of_ble_eq_true rfl⟩, hg _ m_660, hg _ m_51⟩ (pw_V hK hN hT hA hP hD hS [0, 1, 2, 3, 4, 5, 6, 7] rfl (by decide) (q0 := 0) (ci := 5) rfl rfl) rfl rfl hl.1 rfl (lv_room (Nat.le_of_ble_eq_true rfl)) d_Mo_reckon_93 ⟨Nat.le_of_ble_eq_true rfl, Nat.le_of_ble_eq_true rfl⟩) (fun H locs hP hD hS => ?_)
            have hP : va_P D classes (W_Mo cI cL b0 b1 b2 b3 b4 b5 b6 b7 ev wr wg ke ma li ps pn cy ((f_Mo_illegal ca va px).1) ((f_Mo_illegal ca va px).2) cn pp px go ne gi gn) H := hP
            have hD : va_D A (W_Mo cI cL b0 b1 b2 b3 b4 b5 b6 b7 ev wr wg ke ma li ps pn cy ((f_Mo_illegal ca va px).1) ((f_Mo_illegal ca va px).2) cn pp px go ne gi gn) := hD
            generalize e_t10 : f_Mo_illegal ca va px = t10 at hP hD ⊢
            rw [f_Mo_reckon_e9 ca va px gi gn f g a b o t10 e_t10 h1 h6 h11 h16 h49]
            exact W.vret hx hb hr (fun t ht hW => ⟨⟨(), rfl, trivial, by show va_P D classes _ t.heap; rw [ht]; exact hP⟩, hS.F ht⟩) hS.2.2 d_Mo_reckon_96 hlocks
          · refine lv_iload_n hx hb d_Mo_reckon_52 rfl (lv_at hl 2 rfl) ?_
            refine lv_iconst (v := 5) hx hb d_Mo_reckon_53 (by decide) ?_
            refine lv_icmp_ne (tgt := 71) hx hb d_Mo_reckon_54 (by decide) (fun h => absurd h16 h) (fun _ => ?_)
            refine lv_aload_n hx hb d_Mo_reckon_57 rfl (lv_at hl 1 rfl) ?_
            refine lv_iload_n hx hb d_Mo_reckon_58 rfl (lv_at hl 4 rfl) ?_
            refine lv_iload hx hb d_Mo_reckon_59 (lv_at hl 5 rfl) ?_
            refine lv_bipush (v := 31) hx hb d_Mo_reckon_61 (by decide) ?_
            refine lv_iand hx hb d_Mo_reckon_63 ?_
            refine lv_ishr hx hb d_Mo_reckon_64 ?_
            refine cj_v (wc := (W_Mo cI cL b0 b1 b2 b3 b4 b5 b6 b7 ev wr wg ke ma li ps pn cy ca va cn pp px go ne gi gn)) (w1 := (W_Mo cI cL b0 b1 b2 b3 b4 b5 b6 b7 ev wr wg ke ma li ps pn cy ca va cn pp px go ne ((f_Mo_give gi gn (a >>> ((b &&& (31 : Int32)) &&& 31))).1) ((f_Mo_give gi gn (a >>> ((b &&& (31 : Int32)) &&& 31))).2))) hP hD hS hA [0, 1, 2, 3, 4, 5, 6, 7] rfl [b0, b1, b2, b3, b4, b5, b6, b7] rfl rfl (va_runV (rest := []) ⟨hx, hb, hml, hown, hg⟩ (c_Mo_give l D cI cL b0 b1 b2 b3 b4 b5 b6 b7 _ ev wr wg ke ma li ps pn cy ca va cn pp px go ne gi gn (a >>> ((b &&& (31 : Int32)) &&& 31))) ⟨callB_of 1 hg (gw_good m_645) rfl rfl rfl (hg _ m_71) (hg _ m_642) hd_Mo_give ⟨Nat.le_of_ble_eq_true rfl, Nat.le_of_ble_eq_true rfl⟩, hg _ m_644, hg _ m_47⟩ (pw_V hK hN hT hA hP hD hS [0, 1, 2, 3, 4, 5, 6, 7] rfl (by decide) (q0 := 0) (ci := 5) rfl rfl) rfl rfl hl.1 rfl (lv_room (Nat.le_of_ble_eq_true rfl)) d_Mo_reckon_65 ⟨Nat.le_of_ble_eq_true rfl, Nat.le_of_ble_eq_true rfl⟩) (fun H locs hP hD hS => ?_)
            have hP : va_P D classes (W_Mo cI cL b0 b1 b2 b3 b4 b5 b6 b7 ev wr wg ke ma li ps pn cy ca va cn pp px go ne ((f_Mo_give gi gn (a >>> ((b &&& (31 : Int32)) &&& 31))).1) ((f_Mo_give gi gn (a >>> ((b &&& (31 : Int32)) &&& 31))).2)) H := hP
            have hD : va_D A (W_Mo cI cL b0 b1 b2 b3 b4 b5 b6 b7 ev wr wg ke ma li ps pn cy ca va cn pp px go ne ((f_Mo_give gi gn (a >>> ((b &&& (31 : Int32)) &&& 31))).1) ((f_Mo_give gi gn (a >>> ((b &&& (31 : Int32)) &&& 31))).2)) := hD
            generalize e_t11 : f_Mo_give gi gn (a >>> ((b &&& (31 : Int32)) &&& 31)) = t11 at hP hD ⊢
            refine lv_goto (tgt := 96) hx hb d_Mo_reckon_68 (by decide) ?_
            rw [f_Mo_reckon_e10 ca va px gi gn f g a b o t11 e_t11 h1 h6 h11 h16 h49]
            exact W.vret hx hb hr (fun t ht hW => ⟨⟨(), rfl, trivial, by show va_P D classes _ t.heap; rw [ht]; exact hP⟩, hS.F ht⟩) hS.2.2 d_Mo_reckon_96 hlocks
        · refine lv_iconst (v := 1) hx hb d_Mo_reckon_19 (by decide) ?_
          refine lv_goto (tgt := 24) hx hb d_Mo_reckon_20 (by decide) ?_
          refine lv_istore (lv' := [(6, .int _), (0, .ref _), (1, .int _), (2, .int _), (3, .int _), (4, .int _), (5, .int _)]) hx hb d_Mo_reckon_24 hl (by decide) rfl (fun ls hl => ?_)
          refine lv_iload hx hb d_Mo_reckon_26 (lv_at hl 0 rfl) ?_
          refine lv_if_eq (tgt := 46) hx hb d_Mo_reckon_28 (by decide) (fun h => absurd h (by decide)) (fun _ => ?_)
          refine lv_aload_n hx hb d_Mo_reckon_31 rfl (lv_at hl 1 rfl) ?_
          refine lv_aload_n hx hb d_Mo_reckon_32 rfl (lv_at hl 1 rfl) ?_
          refine lv_iload_n hx hb d_Mo_reckon_33 rfl (lv_at hl 2 rfl) ?_
          refine lv_iload_n hx hb d_Mo_reckon_34 rfl (lv_at hl 4 rfl) ?_
          refine lv_iload hx hb d_Mo_reckon_35 (lv_at hl 5 rfl) ?_
          refine cj_i (wc := (W_Mo cI cL b0 b1 b2 b3 b4 b5 b6 b7 ev wr wg ke ma li ps pn cy ca va cn pp px go ne gi gn)) (w1 := (W_Mo cI cL b0 b1 b2 b3 b4 b5 b6 b7 ev wr wg ke ma li ps pn cy ca va cn pp px go ne gi gn)) hP hD hS hA [0, 1, 2, 3, 4, 5, 6, 7] rfl [b0, b1, b2, b3, b4, b5, b6, b7] rfl rfl (va_runV (rest := [.ref _]) ⟨hx, hb, hml, hown, hg⟩ (c_Mo_reckoned l D cI cL b0 b1 b2 b3 b4 b5 b6 b7 _ ev wr wg ke ma li ps pn cy ca va cn pp px go ne gi gn f a b) ⟨callB_of 3 hg (gw_good m_705) rfl rfl rfl (hg _ m_71) (hg _ m_702) hd_Mo_reckoned ⟨Nat.le_of_ble_eq_true rfl, Nat.le_of_ble_eq_true rfl⟩, hg _ m_704, hg _ m_61⟩ (pw_V hK hN hT hA hP hD hS [0, 1, 2, 3, 4, 5, 6, 7] rfl (by decide) (q0 := 0) (ci := 5) rfl rfl) rfl rfl hl.1 rfl (lv_room (Nat.le_of_ble_eq_true rfl)) d_Mo_reckon_37 ⟨Nat.le_of_ble_eq_true rfl, Nat.le_of_ble_eq_true rfl⟩) (fun H locs hP hD hS => ?_)
          have hP : va_P D classes (W_Mo cI cL b0 b1 b2 b3 b4 b5 b6 b7 ev wr wg ke ma li ps pn cy ca va cn pp px go ne gi gn) H := hP
          have hD : va_D A (W_Mo cI cL b0 b1 b2 b3 b4 b5 b6 b7 ev wr wg ke ma li ps pn cy ca va cn pp px go ne gi gn) := hD
          refine cj_v (wc := (W_Mo cI cL b0 b1 b2 b3 b4 b5 b6 b7 ev wr wg ke ma li ps pn cy ca va cn pp px go ne gi gn)) (w1 := (W_Mo cI cL b0 b1 b2 b3 b4 b5 b6 b7 ev wr wg ke ma li ps pn cy ca va cn pp px go ne ((f_Mo_give gi gn (f_Mo_reckoned f a b)).1) ((f_Mo_give gi gn (f_Mo_reckoned f a b)).2))) hP hD hS hA [0, 1, 2, 3, 4, 5, 6, 7] rfl [b0, b1, b2, b3, b4, b5, b6, b7] rfl rfl (va_runV (rest := []) ⟨hx, hb, hml, hown, hg⟩ (c_Mo_give l D cI cL b0 b1 b2 b3 b4 b5 b6 b7 _ ev wr wg ke ma li ps pn cy ca va cn pp px go ne gi gn (f_Mo_reckoned f a b)) ⟨callB_of 1 hg (gw_good m_645) rfl rfl rfl (hg _ m_71) (hg _ m_642) hd_Mo_give ⟨Nat.le_of_ble_eq_true rfl, Nat.le_of_ble_eq_true rfl⟩, hg _ m_644, hg _ m_47⟩ (pw_V hK hN hT hA hP hD hS [0, 1, 2, 3, 4, 5, 6, 7] rfl (by decide) (q0 := 0) (ci := 5) rfl rfl) rfl rfl hl.1 rfl (lv_room (Nat.le_of_ble_eq_true rfl)) d_Mo_reckon_40 ⟨Nat.le_of_ble_eq_true rfl, Nat.le_of_ble_eq_true rfl⟩) (fun H locs hP hD hS => ?_)
          have hP : va_P D classes (W_Mo cI cL b0 b1 b2 b3 b4 b5 b6 b7 ev wr wg ke ma li ps pn cy ca va cn pp px go ne ((f_Mo_give gi gn (f_Mo_reckoned f a b)).1) ((f_Mo_give gi gn (f_Mo_reckoned f a b)).2)) H := hP
          have hD : va_D A (W_Mo cI cL b0 b1 b2 b3 b4 b5 b6 b7 ev wr wg ke ma li ps pn cy ca va cn pp px go ne ((f_Mo_give gi gn (f_Mo_reckoned f a b)).1) ((f_Mo_give gi gn (f_Mo_reckoned f a b)).2)) := hD
          generalize e_t12 : f_Mo_give gi gn (f_Mo_reckoned f a b) = t12 at hP hD ⊢
          refine lv_goto (tgt := 96) hx hb d_Mo_reckon_43 (by decide) ?_
          rw [f_Mo_reckon_e11 ca va px gi gn f g a b o t12 e_t12 h1 h6 h11 h16]
          exact W.vret hx hb hr (fun t ht hW => ⟨⟨(), rfl, trivial, by show va_P D classes _ t.heap; rw [ht]; exact hP⟩, hS.F ht⟩) hS.2.2 d_Mo_reckon_96 hlocks
abbrev q_Mo_jump (D : va_G) (cI cL : ClassId) (b0 b1 b2 b3 b4 b5 b6 b7 : Nat) (A : Nat → Prop) (ev : Int32) (wr : Nat → Int32) (wg : Nat → Int64) (ke : Nat → Int32) (ma : Nat → Int32) (li : Nat → Int64) (ps : Int32) (pn : Nat → Int32) (cy : Int32) (ca : Int32) (va : Int32) (cn : Nat → Int32) (pp : Int32) (px : Int32) (go : Int32) (ne : Int32) (gi : Int32) (gn : Int32) (F : Int32 × Int32 × Int32 × Int32 × Int32) : Array Value → State → Outcome → State → Prop := va_Qv (fun (_ : Unit) => True) (fun _ t => va_P D classes (W_Mo cI cL b0 b1 b2 b3 b4 b5 b6 b7 ev wr wg ke ma li ps pn cy F.1 F.2.1 cn pp px go F.2.2.1 F.2.2.2.1 F.2.2.2.2) t.heap) A
theorem f_Mo_jump_e0 (ca : Int32) (va : Int32) (pp : Int32) (px : Int32) (ne : Int32) (gi : Int32) (gn : Int32) (f : Int32) (v : Int32) (t1 : Int32 × Int32) (t2 : Int32 × Int32 × Int32) (e_t1 : f_Mo_give gi gn (pp + (4 : Int32)) = t1) (e_t2 : f_Mo_go ca va ne v = t2) (h1 : f = 0) : f_Mo_jump ca va pp px ne gi gn f v = (t2.1, t2.2.1, t2.2.2, t1.1, t1.2) := by
  subst e_t2
  subst e_t1
  exact (if_pos h1)
theorem f_Mo_jump_e1 (ca : Int32) (va : Int32) (pp : Int32) (px : Int32) (ne : Int32) (gi : Int32) (gn : Int32) (f : Int32) (v : Int32) (t3 : Int32 × Int32) (e_t3 : f_Mo_illegal ca va px = t3) (h1 : ¬ f = 0) : f_Mo_jump ca va pp px ne gi gn f v = (t3.1, t3.2, ne, gi, gn) := by
  subst e_t3
  exact (if_neg h1)
set_option maxHeartbeats 4000000 in
set_option maxRecDepth 100000 in
theorem c_Mo_jump (l : Launch) (D : va_G) (cI cL : ClassId) (b0 b1 b2 b3 b4 b5 b6 b7 : Nat) (sz : Nat) (ev : Int32) (wr : Nat → Int32) (wg : Nat → Int64) (ke : Nat → Int32) (ma : Nat → Int32) (li : Nat → Int64) (ps : Int32) (pn : Nat → Int32) (cy : Int32) (ca : Int32) (va : Int32) (cn : Nat → Int32) (pp : Int32) (px : Int32) (go : Int32) (ne : Int32) (gi : Int32) (gn : Int32) (f : Int32) (v : Int32)  : Met l y_Mo_jump w_Mo_jump ({ frames := 2, cells := 0, slots := 0, locals := 43 }) (va_Pc [.ref b0, .int f, .int v] (PW D cI cL (W_Mo cI cL b0 b1 b2 b3 b4 b5 b6 b7 ev wr wg ke ma li ps pn cy ca va cn pp px go ne gi gn) sz)) (q_Mo_jump D cI cL b0 b1 b2 b3 b4 b5 b6 b7 (va_A (W_Mo cI cL b0 b1 b2 b3 b4 b5 b6 b7 ev wr wg ke ma li ps pn cy ca va cn pp px go ne gi gn) sz) ev wr wg ke ma li ps pn cy ca va cn pp px go ne gi gn (f_Mo_jump ca va pp px ne gi gn f v)) 0 0 (va_A (W_Mo cI cL b0 b1 b2 b3 b4 b5 b6 b7 ev wr wg ke ma li ps pn cy ca va cn pp px go ne gi gn) sz) := by
  refine mk_met (Qf := fun A => q_Mo_jump D cI cL b0 b1 b2 b3 b4 b5 b6 b7 A ev wr wg ke ma li ps pn cy ca va cn pp px go ne gi gn (f_Mo_jump ca va pp px ne gi gn f v)) (by decide) (Nat.le_of_ble_eq_true rfl) ?_
  intro p e s m below meth c A ls hx hb hr hlocks hml hown hg hK hN hT hA hP hD hS hnm hl
  refine lv_iload_n hx hb d_Mo_jump_0 rfl (lv_at hl 1 rfl) ?_
  refine lv_if_eq (tgt := 11) hx hb d_Mo_jump_1 (by decide) (fun h1 => ?_) (fun h1 => ?_)
  · refine lv_aload_n hx hb d_Mo_jump_11 rfl (lv_at hl 0 rfl) ?_
    refine lv_aload_n hx hb d_Mo_jump_12 rfl (lv_at hl 0 rfl) ?_
    refine va_get (ci := 5) (C := R_Mo) (T := F_Mo) (N := 18) hx hb hg in_Mo hown hK hP 0 rfl rfl 12 (by decide) (hg _ m_515) (fun _ h => h) rfl d_Mo_jump_13 ?_
    refine lv_iconst (v := 4) hx hb d_Mo_jump_16 (by decide) ?_
    refine lv_iadd hx hb d_Mo_jump_17 ?_
    refine cj_v (wc := (W_Mo cI cL b0 b1 b2 b3 b4 b5 b6 b7 ev wr wg ke ma li ps pn cy ca va cn pp px go ne gi gn)) (w1 := (W_Mo cI cL b0 b1 b2 b3 b4 b5 b6 b7 ev wr wg ke ma li ps pn cy ca va cn pp px go ne ((f_Mo_give gi gn (pp + (4 : Int32))).1) ((f_Mo_give gi gn (pp + (4 : Int32))).2))) hP hD hS hA [0, 1, 2, 3, 4, 5, 6, 7] rfl [b0, b1, b2, b3, b4, b5, b6, b7] rfl rfl (va_runV (rest := []) ⟨hx, hb, hml, hown, hg⟩ (c_Mo_give l D cI cL b0 b1 b2 b3 b4 b5 b6 b7 _ ev wr wg ke ma li ps pn cy ca va cn pp px go ne gi gn (pp + (4 : Int32))) ⟨callB_of 1 hg (gw_good m_645) rfl rfl rfl (hg _ m_71) (hg _ m_642) hd_Mo_give ⟨Nat.le_of_ble_eq_true rfl, Nat.le_of_ble_eq_true rfl⟩, hg _ m_644, hg _ m_47⟩ (pw_V hK hN hT hA hP hD hS [0, 1, 2, 3, 4, 5, 6, 7] rfl (by decide) (q0 := 0) (ci := 5) rfl rfl) rfl rfl hl.1 rfl (lv_room (Nat.le_of_ble_eq_true rfl)) d_Mo_jump_18 ⟨Nat.le_of_ble_eq_true rfl, Nat.le_of_ble_eq_true rfl⟩) (fun H locs hP hD hS => ?_)
    have hP : va_P D classes (W_Mo cI cL b0 b1 b2 b3 b4 b5 b6 b7 ev wr wg ke ma li ps pn cy ca va cn pp px go ne ((f_Mo_give gi gn (pp + (4 : Int32))).1) ((f_Mo_give gi gn (pp + (4 : Int32))).2)) H := hP
    have hD : va_D A (W_Mo cI cL b0 b1 b2 b3 b4 b5 b6 b7 ev wr wg ke ma li ps pn cy ca va cn pp px go ne ((f_Mo_give gi gn (pp + (4 : Int32))).1) ((f_Mo_give gi gn (pp + (4 : Int32))).2)) := hD
    generalize e_t1 : f_Mo_give gi gn (pp + (4 : Int32)) = t1 at hP hD ⊢
    refine lv_aload_n hx hb d_Mo_jump_21 rfl (lv_at hl 0 rfl) ?_
    refine lv_iload_n hx hb d_Mo_jump_22 rfl (lv_at hl 2 rfl) ?_
    refine cj_v (wc := (W_Mo cI cL b0 b1 b2 b3 b4 b5 b6 b7 ev wr wg ke ma li ps pn cy ca va cn pp px go ne t1.1 t1.2)) (w1 := (W_Mo cI cL b0 b1 b2 b3 b4 b5 b6 b7 ev wr wg ke ma li ps pn cy ((f_Mo_go ca va ne v).1) ((f_Mo_go ca va ne v).2.1) cn pp px go ((f_Mo_go ca va ne v).2.2) t1.1 t1.2)) hP hD hS hA [0, 1, 2, 3, 4, 5, 6, 7] rfl [b0, b1, b2, b3, b4, b5, b6, b7] rfl rfl (va_runV (rest := []) ⟨hx, hb, hml, hown, hg⟩ (c_Mo_go l D cI cL b0 b1 b2 b3 b4 b5 b6 b7 _ ev wr wg ke ma li ps pn cy ca va cn pp px go ne t1.1 t1.2 v) ⟨callB_of 1 hg (gw_good m_653) rfl rfl rfl (hg _ m_71) (hg _ m_650) hd_Mo_go ⟨Nat.le_of_ble_eq_true rfl, Nat.le_of_ble_eq_true rfl⟩, hg _ m_652, hg _ m_49⟩ (pw_V hK hN hT hA hP hD hS [0, 1, 2, 3, 4, 5, 6, 7] rfl (by decide) (q0 := 0) (ci := 5) rfl rfl) rfl rfl hl.1 rfl (lv_room (Nat.le_of_ble_eq_true rfl)) d_Mo_jump_23 ⟨Nat.le_of_ble_eq_true rfl, Nat.le_of_ble_eq_true rfl⟩) (fun H locs hP hD hS => ?_)
    have hP : va_P D classes (W_Mo cI cL b0 b1 b2 b3 b4 b5 b6 b7 ev wr wg ke ma li ps pn cy ((f_Mo_go ca va ne v).1) ((f_Mo_go ca va ne v).2.1) cn pp px go ((f_Mo_go ca va ne v).2.2) t1.1 t1.2) H := hP
    have hD : va_D A (W_Mo cI cL b0 b1 b2 b3 b4 b5 b6 b7 ev wr wg ke ma li ps pn cy ((f_Mo_go ca va ne v).1) ((f_Mo_go ca va ne v).2.1) cn pp px go ((f_Mo_go ca va ne v).2.2) t1.1 t1.2) := hD
    generalize e_t2 : f_Mo_go ca va ne v = t2 at hP hD ⊢
    rw [f_Mo_jump_e0 ca va pp px ne gi gn f v t1 t2 e_t1 e_t2 h1]
    exact W.vret hx hb hr (fun t ht hW => ⟨⟨(), rfl, trivial, by show va_P D classes _ t.heap; rw [ht]; exact hP⟩, hS.F ht⟩) hS.2.2 d_Mo_jump_26 hlocks
  · refine lv_aload_n hx hb d_Mo_jump_4 rfl (lv_at hl 0 rfl) ?_
    refine cj_v (wc := (W_Mo cI cL b0 b1 b2 b3 b4 b5 b6 b7 ev wr wg ke ma li ps pn cy ca va cn pp px go ne gi gn)) (w1 := (W_Mo cI cL b0 b1 b2 b3 b4 b5 b6 b7 ev wr wg ke ma li ps pn cy ((f_Mo_illegal ca va px).1) ((f_Mo_illegal ca va px).2) cn pp px go ne gi gn)) hP hD hS hA [0, 1, 2, 3, 4, 5, 6, 7] rfl [b0, b1, b2, b3, b4, b5, b6, b7] rfl rfl (va_runV (rest := []) ⟨hx, hb, hml, hown, hg⟩ (c_Mo_illegal l D cI cL b0 b1 b2 b3 b4 b5 b6 b7 _ ev wr wg ke ma li ps pn cy ca va cn pp px go ne gi gn) ⟨callB_of 0 hg (gw_good m_661) rfl rfl rfl (hg _ m_71) (hg _ m_658) hd_Mo_illegal ⟨Nat.le_of_ble_eq_true rfl, Nat.le_of_ble_eq_true rfl⟩, hg _ m_660, hg _ m_51⟩ (pw_V hK hN hT hA hP hD hS [0, 1, 2, 3, 4, 5, 6, 7] rfl (by decide) (q0 := 0) (ci := 5) rfl rfl) rfl rfl hl.1 rfl (lv_room (Nat.le_of_ble_eq_true rfl)) d_Mo_jump_5 ⟨Nat.le_of_ble_eq_true rfl, Nat.le_of_ble_eq_true rfl⟩) (fun H locs hP hD hS => ?_)
    have hP : va_P D classes (W_Mo cI cL b0 b1 b2 b3 b4 b5 b6 b7 ev wr wg ke ma li ps pn cy ((f_Mo_illegal ca va px).1) ((f_Mo_illegal ca va px).2) cn pp px go ne gi gn) H := hP
    have hD : va_D A (W_Mo cI cL b0 b1 b2 b3 b4 b5 b6 b7 ev wr wg ke ma li ps pn cy ((f_Mo_illegal ca va px).1) ((f_Mo_illegal ca va px).2) cn pp px go ne gi gn) := hD
    generalize e_t3 : f_Mo_illegal ca va px = t3 at hP hD ⊢
    refine lv_goto (tgt := 26) hx hb d_Mo_jump_8 (by decide) ?_
    rw [f_Mo_jump_e1 ca va pp px ne gi gn f v t3 e_t3 h1]
    exact W.vret hx hb hr (fun t ht hW => ⟨⟨(), rfl, trivial, by show va_P D classes _ t.heap; rw [ht]; exact hP⟩, hS.F ht⟩) hS.2.2 d_Mo_jump_26 hlocks
abbrev q_Mo_rest (D : va_G) (cI cL : ClassId) (b0 b1 b2 b3 b4 b5 b6 b7 : Nat) (A : Nat → Prop) (ev : Int32) (wr : Nat → Int32) (wg : Nat → Int64) (ke : Nat → Int32) (ma : Nat → Int32) (li : Nat → Int64) (ps : Int32) (pn : Nat → Int32) (cy : Int32) (ca : Int32) (va : Int32) (cn : Nat → Int32) (pp : Int32) (px : Int32) (go : Int32) (ne : Int32) (gi : Int32) (gn : Int32) (F : Int32 × Int32) : Array Value → State → Outcome → State → Prop := va_Qv (fun (_ : Unit) => True) (fun _ t => va_P D classes (W_Mo cI cL b0 b1 b2 b3 b4 b5 b6 b7 ev wr wg ke ma li ps pn cy F.1 F.2 cn pp px go ne gi gn) t.heap) A
theorem f_Mo_rest_e0 (ca : Int32) (va : Int32) (px : Int32) (f : Int32) (t1 : Int32 × Int32) (e_t1 : f_Mo_illegal ca va px = t1) (h6 : ¬ px = (115 : Int32)) (h24 : ¬ px = (1048691 : Int32)) (h45 : ¬ (f_Mo_field px (0 : Int32) (7 : Int32)) = (15 : Int32)) : f_Mo_rest ca va px f = (t1.1, t1.2) := by
  subst e_t1
  exact ((if_neg h6).trans ((if_neg h24).trans (if_neg h45)))
theorem f_Mo_rest_e1 (ca : Int32) (va : Int32) (px : Int32) (f : Int32)  (h6 : ¬ px = (115 : Int32)) (h24 : ¬ px = (1048691 : Int32)) (h45 : (f_Mo_field px (0 : Int32) (7 : Int32)) = (15 : Int32)) (h49 : f = 0) : f_Mo_rest ca va px f = (ca, va) := by
  exact ((if_neg h6).trans ((if_neg h24).trans ((if_pos h45).trans (if_pos h49))))
theorem f_Mo_rest_e2 (ca : Int32) (va : Int32) (px : Int32) (f : Int32) (t2 : Int32 × Int32) (e_t2 : f_Mo_illegal ca va px = t2) (h6 : ¬ px = (115 : Int32)) (h24 : ¬ px = (1048691 : Int32)) (h45 : (f_Mo_field px (0 : Int32) (7 : Int32)) = (15 : Int32)) (h49 : ¬ f = 0) : f_Mo_rest ca va px f = (t2.1, t2.2) := by
  subst e_t2
  exact ((if_neg h6).trans ((if_neg h24).trans ((if_pos h45).trans (if_neg h49))))
theorem f_Mo_rest_e3 (ca : Int32) (va : Int32) (px : Int32) (f : Int32) (t3 : Int32 × Int32) (e_t3 : f_Mo_stop ca va (4 : Int32) (0 : Int32) = t3) (h6 : ¬ px = (115 : Int32)) (h24 : px = (1048691 : Int32)) : f_Mo_rest ca va px f = (t3.1, t3.2) := by
  subst e_t3
  exact ((if_neg h6).trans (if_pos h24))
theorem f_Mo_rest_e4 (ca : Int32) (va : Int32) (px : Int32) (f : Int32) (t4 : Int32 × Int32) (e_t4 : f_Mo_stop ca va (3 : Int32) (0 : Int32) = t4) (h6 : px = (115 : Int32)) : f_Mo_rest ca va px f = (t4.1, t4.2) := by
  subst e_t4
  exact (if_pos h6)
set_option maxHeartbeats 4000000 in
set_option maxRecDepth 100000 in
theorem c_Mo_rest (l : Launch) (D : va_G) (cI cL : ClassId) (b0 b1 b2 b3 b4 b5 b6 b7 : Nat) (sz : Nat) (ev : Int32) (wr : Nat → Int32) (wg : Nat → Int64) (ke : Nat → Int32) (ma : Nat → Int32) (li : Nat → Int64) (ps : Int32) (pn : Nat → Int32) (cy : Int32) (ca : Int32) (va : Int32) (cn : Nat → Int32) (pp : Int32) (px : Int32) (go : Int32) (ne : Int32) (gi : Int32) (gn : Int32) (f : Int32)  : Met l y_Mo_rest w_Mo_rest ({ frames := 2, cells := 0, slots := 0, locals := 42 }) (va_Pc [.ref b0, .int f] (PW D cI cL (W_Mo cI cL b0 b1 b2 b3 b4 b5 b6 b7 ev wr wg ke ma li ps pn cy ca va cn pp px go ne gi gn) sz)) (q_Mo_rest D cI cL b0 b1 b2 b3 b4 b5 b6 b7 (va_A (W_Mo cI cL b0 b1 b2 b3 b4 b5 b6 b7 ev wr wg ke ma li ps pn cy ca va cn pp px go ne gi gn) sz) ev wr wg ke ma li ps pn cy ca va cn pp px go ne gi gn (f_Mo_rest ca va px f)) 0 0 (va_A (W_Mo cI cL b0 b1 b2 b3 b4 b5 b6 b7 ev wr wg ke ma li ps pn cy ca va cn pp px go ne gi gn) sz) := by
  refine mk_met (Qf := fun A => q_Mo_rest D cI cL b0 b1 b2 b3 b4 b5 b6 b7 A ev wr wg ke ma li ps pn cy ca va cn pp px go ne gi gn (f_Mo_rest ca va px f)) (by decide) (Nat.le_of_ble_eq_true rfl) ?_
  intro p e s m below meth c A ls hx hb hr hlocks hml hown hg hK hN hT hA hP hD hS hnm hl
  refine lv_aload_n hx hb d_Mo_rest_0 rfl (lv_at hl 0 rfl) ?_
  refine va_get (ci := 5) (C := R_Mo) (T := F_Mo) (N := 18) hx hb hg in_Mo hown hK hP 0 rfl rfl 13 (by decide) (hg _ m_516) (fun _ h => h) rfl d_Mo_rest_1 ?_
  refine lv_bipush (v := 115) hx hb d_Mo_rest_4 (by decide) ?_
  refine lv_icmp_ne (tgt := 18) hx hb d_Mo_rest_6 (by decide) (fun h6 => ?_) (fun h6 => ?_)
  · refine lv_aload_n hx hb d_Mo_rest_18 rfl (lv_at hl 0 rfl) ?_
    refine va_get (ci := 5) (C := R_Mo) (T := F_Mo) (N := 18) hx hb hg in_Mo hown hK hP 0 rfl rfl 13 (by decide) (hg _ m_516) (fun _ h => h) rfl d_Mo_rest_19 ?_
    refine lv_ldc hx hb hown (hg _ m_710) d_Mo_rest_22 ?_
    refine lv_icmp_ne (tgt := 36) hx hb d_Mo_rest_24 (by decide) (fun h24 => ?_) (fun h24 => ?_)
    · refine lv_aload_n hx hb d_Mo_rest_36 rfl (lv_at hl 0 rfl) ?_
      refine lv_iconst (v := 0) hx hb d_Mo_rest_37 (by decide) ?_
      refine lv_bipush (v := 7) hx hb d_Mo_rest_38 (by decide) ?_
      refine cj_i (wc := (W_Mo cI cL b0 b1 b2 b3 b4 b5 b6 b7 ev wr wg ke ma li ps pn cy ca va cn pp px go ne gi gn)) (w1 := (W_Mo cI cL b0 b1 b2 b3 b4 b5 b6 b7 ev wr wg ke ma li ps pn cy ca va cn pp px go ne gi gn)) hP hD hS hA [0, 1, 2, 3, 4, 5, 6, 7] rfl [b0, b1, b2, b3, b4, b5, b6, b7] rfl rfl (va_runV (rest := []) ⟨hx, hb, hml, hown, hg⟩ (c_Mo_field l D cI cL b0 b1 b2 b3 b4 b5 b6 b7 _ ev wr wg ke ma li ps pn cy ca va cn pp px go ne gi gn (0 : Int32) (7 : Int32)) ⟨callB_of 2 hg (gw_good m_637) rfl rfl rfl (hg _ m_71) (hg _ m_634) hd_Mo_field ⟨Nat.le_of_ble_eq_true rfl, Nat.le_of_ble_eq_true rfl⟩, hg _ m_636, hg _ m_45⟩ (pw_V hK hN hT hA hP hD hS [0, 1, 2, 3, 4, 5, 6, 7] rfl (by decide) (q0 := 0) (ci := 5) rfl rfl) rfl rfl hl.1 rfl (lv_room (Nat.le_of_ble_eq_true rfl)) d_Mo_rest_40 ⟨Nat.le_of_ble_eq_true rfl, Nat.le_of_ble_eq_true rfl⟩) (fun H locs hP hD hS => ?_)
      have hP : va_P D classes (W_Mo cI cL b0 b1 b2 b3 b4 b5 b6 b7 ev wr wg ke ma li ps pn cy ca va cn pp px go ne gi gn) H := hP
      have hD : va_D A (W_Mo cI cL b0 b1 b2 b3 b4 b5 b6 b7 ev wr wg ke ma li ps pn cy ca va cn pp px go ne gi gn) := hD
      refine lv_bipush (v := 15) hx hb d_Mo_rest_43 (by decide) ?_
      refine lv_icmp_ne (tgt := 52) hx hb d_Mo_rest_45 (by decide) (fun h45 => ?_) (fun h45 => ?_)
      · refine lv_aload_n hx hb d_Mo_rest_52 rfl (lv_at hl 0 rfl) ?_
        refine cj_v (wc := (W_Mo cI cL b0 b1 b2 b3 b4 b5 b6 b7 ev wr wg ke ma li ps pn cy ca va cn pp px go ne gi gn)) (w1 := (W_Mo cI cL b0 b1 b2 b3 b4 b5 b6 b7 ev wr wg ke ma li ps pn cy ((f_Mo_illegal ca va px).1) ((f_Mo_illegal ca va px).2) cn pp px go ne gi gn)) hP hD hS hA [0, 1, 2, 3, 4, 5, 6, 7] rfl [b0, b1, b2, b3, b4, b5, b6, b7] rfl rfl (va_runV (rest := []) ⟨hx, hb, hml, hown, hg⟩ (c_Mo_illegal l D cI cL b0 b1 b2 b3 b4 b5 b6 b7 _ ev wr wg ke ma li ps pn cy ca va cn pp px go ne gi gn) ⟨callB_of 0 hg (gw_good m_661) rfl rfl rfl (hg _ m_71) (hg _ m_658) hd_Mo_illegal ⟨Nat.le_of_ble_eq_true rfl, Nat.le_of_ble_eq_true rfl⟩, hg _ m_660, hg _ m_51⟩ (pw_V hK hN hT hA hP hD hS [0, 1, 2, 3, 4, 5, 6, 7] rfl (by decide) (q0 := 0) (ci := 5) rfl rfl) rfl rfl hl.1 rfl (lv_room (Nat.le_of_ble_eq_true rfl)) d_Mo_rest_53 ⟨Nat.le_of_ble_eq_true rfl, Nat.le_of_ble_eq_true rfl⟩) (fun H locs hP hD hS => ?_)
        have hP : va_P D classes (W_Mo cI cL b0 b1 b2 b3 b4 b5 b6 b7 ev wr wg ke ma li ps pn cy ((f_Mo_illegal ca va px).1) ((f_Mo_illegal ca va px).2) cn pp px go ne gi gn) H := hP
        have hD : va_D A (W_Mo cI cL b0 b1 b2 b3 b4 b5 b6 b7 ev wr wg ke ma li ps pn cy ((f_Mo_illegal ca va px).1) ((f_Mo_illegal ca va px).2) cn pp px go ne gi gn) := hD
        generalize e_t1 : f_Mo_illegal ca va px = t1 at hP hD ⊢
        rw [f_Mo_rest_e0 ca va px f t1 e_t1 h6 h24 h45]
        exact W.vret hx hb hr (fun t ht hW => ⟨⟨(), rfl, trivial, by show va_P D classes _ t.heap; rw [ht]; exact hP⟩, hS.F ht⟩) hS.2.2 d_Mo_rest_56 hlocks
      · refine lv_iload_n hx hb d_Mo_rest_48 rfl (lv_at hl 1 rfl) ?_
        refine lv_if_eq (tgt := 56) hx hb d_Mo_rest_49 (by decide) (fun h49 => ?_) (fun h49 => ?_)
        · rw [f_Mo_rest_e1 ca va px f h6 h24 h45 h49]
          exact W.vret hx hb hr (fun t ht hW => ⟨⟨(), rfl, trivial, by show va_P D classes _ t.heap; rw [ht]; exact hP⟩, hS.F ht⟩) hS.2.2 d_Mo_rest_56 hlocks
        · refine lv_aload_n hx hb d_Mo_rest_52 rfl (lv_at hl 0 rfl) ?_
          refine cj_v (wc := (W_Mo cI cL b0 b1 b2 b3 b4 b5 b6 b7 ev wr wg ke ma li ps pn cy ca va cn pp px go ne gi gn)) (w1 := (W_Mo cI cL b0 b1 b2 b3 b4 b5 b6 b7 ev wr wg ke ma li ps pn cy ((f_Mo_illegal ca va px).1) ((f_Mo_illegal ca va px).2) cn pp px go ne gi gn)) hP hD hS hA [0, 1, 2, 3, 4, 5, 6, 7] rfl [b0, b1, b2, b3, b4, b5, b6, b7] rfl rfl (va_runV (rest := []) ⟨hx, hb, hml, hown, hg⟩ (c_Mo_illegal l D cI cL b0 b1 b2 b3 b4 b5 b6 b7 _ ev wr wg ke ma li ps pn cy ca va cn pp px go ne gi gn) ⟨callB_of 0 hg (gw_good m_661) rfl rfl rfl (hg _ m_71) (hg _ m_658) hd_Mo_illegal ⟨Nat.le_of_ble_eq_true rfl, Nat.le_of_ble_eq_true rfl⟩, hg _ m_660, hg _ m_51⟩ (pw_V hK hN hT hA hP hD hS [0, 1, 2, 3, 4, 5, 6, 7] rfl (by decide) (q0 := 0) (ci := 5) rfl rfl) rfl rfl hl.1 rfl (lv_room (Nat.le_of_ble_eq_true rfl)) d_Mo_rest_53 ⟨Nat.le_of_ble_eq_true rfl, Nat.le_of_ble_eq_true rfl⟩) (fun H locs hP hD hS => ?_)
          have hP : va_P D classes (W_Mo cI cL b0 b1 b2 b3 b4 b5 b6 b7 ev wr wg ke ma li ps pn cy ((f_Mo_illegal ca va px).1) ((f_Mo_illegal ca va px).2) cn pp px go ne gi gn) H := hP
          have hD : va_D A (W_Mo cI cL b0 b1 b2 b3 b4 b5 b6 b7 ev wr wg ke ma li ps pn cy ((f_Mo_illegal ca va px).1) ((f_Mo_illegal ca va px).2) cn pp px go ne gi gn) := hD
          generalize e_t2 : f_Mo_illegal ca va px = t2 at hP hD ⊢
          rw [f_Mo_rest_e2 ca va px f t2 e_t2 h6 h24 h45 h49]
          exact W.vret hx hb hr (fun t ht hW => ⟨⟨(), rfl, trivial, by show va_P D classes _ t.heap; rw [ht]; exact hP⟩, hS.F ht⟩) hS.2.2 d_Mo_rest_56 hlocks
    · refine lv_aload_n hx hb d_Mo_rest_27 rfl (lv_at hl 0 rfl) ?_
      refine lv_iconst (v := 4) hx hb d_Mo_rest_28 (by decide) ?_
      refine lv_iconst (v := 0) hx hb d_Mo_rest_29 (by decide) ?_
      refine cj_v (wc := (W_Mo cI cL b0 b1 b2 b3 b4 b5 b6 b7 ev wr wg ke ma li ps pn cy ca va cn pp px go ne gi gn)) (w1 := (W_Mo cI cL b0 b1 b2 b3 b4 b5 b6 b7 ev wr wg ke ma li ps pn cy ((f_Mo_stop ca va (4 : Int32) (0 : Int32)).1) ((f_Mo_stop ca va (4 : Int32) (0 : Int32)).2) cn pp px go ne gi gn)) hP hD hS hA [0, 1, 2, 3, 4, 5, 6, 7] rfl [b0, b1, b2, b3, b4, b5, b6, b7] rfl rfl (va_runV (rest := []) ⟨hx, hb, hml, hown, hg⟩ (c_Mo_stop l D cI cL b0 b1 b2 b3 b4 b5 b6 b7 _ ev wr wg ke ma li ps pn cy ca va cn pp px go ne gi gn (4 : Int32) (0 : Int32)) ⟨callB_of 2 hg (gw_good m_595) rfl rfl rfl (hg _ m_71) (hg _ m_592) hd_Mo_stop ⟨Nat.le_of_ble_eq_true rfl, Nat.le_of_ble_eq_true rfl⟩, hg _ m_594, hg _ m_40⟩ (pw_V hK hN hT hA hP hD hS [0, 1, 2, 3, 4, 5, 6, 7] rfl (by decide) (q0 := 0) (ci := 5) rfl rfl) rfl rfl hl.1 rfl (lv_room (Nat.le_of_ble_eq_true rfl)) d_Mo_rest_30 ⟨Nat.le_of_ble_eq_true rfl, Nat.le_of_ble_eq_true rfl⟩) (fun H locs hP hD hS => ?_)
      have hP : va_P D classes (W_Mo cI cL b0 b1 b2 b3 b4 b5 b6 b7 ev wr wg ke ma li ps pn cy ((f_Mo_stop ca va (4 : Int32) (0 : Int32)).1) ((f_Mo_stop ca va (4 : Int32) (0 : Int32)).2) cn pp px go ne gi gn) H := hP
      have hD : va_D A (W_Mo cI cL b0 b1 b2 b3 b4 b5 b6 b7 ev wr wg ke ma li ps pn cy ((f_Mo_stop ca va (4 : Int32) (0 : Int32)).1) ((f_Mo_stop ca va (4 : Int32) (0 : Int32)).2) cn pp px go ne gi gn) := hD
      generalize e_t3 : f_Mo_stop ca va (4 : Int32) (0 : Int32) = t3 at hP hD ⊢
      refine lv_goto (tgt := 56) hx hb d_Mo_rest_33 (by decide) ?_
      rw [f_Mo_rest_e3 ca va px f t3 e_t3 h6 h24]
      exact W.vret hx hb hr (fun t ht hW => ⟨⟨(), rfl, trivial, by show va_P D classes _ t.heap; rw [ht]; exact hP⟩, hS.F ht⟩) hS.2.2 d_Mo_rest_56 hlocks
  · refine lv_aload_n hx hb d_Mo_rest_9 rfl (lv_at hl 0 rfl) ?_
    refine lv_iconst (v := 3) hx hb d_Mo_rest_10 (by decide) ?_
    refine lv_iconst (v := 0) hx hb d_Mo_rest_11 (by decide) ?_
    refine cj_v (wc := (W_Mo cI cL b0 b1 b2 b3 b4 b5 b6 b7 ev wr wg ke ma li ps pn cy ca va cn pp px go ne gi gn)) (w1 := (W_Mo cI cL b0 b1 b2 b3 b4 b5 b6 b7 ev wr wg ke ma li ps pn cy ((f_Mo_stop ca va (3 : Int32) (0 : Int32)).1) ((f_Mo_stop ca va (3 : Int32) (0 : Int32)).2) cn pp px go ne gi gn)) hP hD hS hA [0, 1, 2, 3, 4, 5, 6, 7] rfl [b0, b1, b2, b3, b4, b5, b6, b7] rfl rfl (va_runV (rest := []) ⟨hx, hb, hml, hown, hg⟩ (c_Mo_stop l D cI cL b0 b1 b2 b3 b4 b5 b6 b7 _ ev wr wg ke ma li ps pn cy ca va cn pp px go ne gi gn (3 : Int32) (0 : Int32)) ⟨callB_of 2 hg (gw_good m_595) rfl rfl rfl (hg _ m_71) (hg _ m_592) hd_Mo_stop ⟨Nat.le_of_ble_eq_true rfl, Nat.le_of_ble_eq_true rfl⟩, hg _ m_594, hg _ m_40⟩ (pw_V hK hN hT hA hP hD hS [0, 1, 2, 3, 4, 5, 6, 7] rfl (by decide) (q0 := 0) (ci := 5) rfl rfl) rfl rfl hl.1 rfl (lv_room (Nat.le_of_ble_eq_true rfl)) d_Mo_rest_12 ⟨Nat.le_of_ble_eq_true rfl, Nat.le_of_ble_eq_true rfl⟩) (fun H locs hP hD hS => ?_)
    have hP : va_P D classes (W_Mo cI cL b0 b1 b2 b3 b4 b5 b6 b7 ev wr wg ke ma li ps pn cy ((f_Mo_stop ca va (3 : Int32) (0 : Int32)).1) ((f_Mo_stop ca va (3 : Int32) (0 : Int32)).2) cn pp px go ne gi gn) H := hP
    have hD : va_D A (W_Mo cI cL b0 b1 b2 b3 b4 b5 b6 b7 ev wr wg ke ma li ps pn cy ((f_Mo_stop ca va (3 : Int32) (0 : Int32)).1) ((f_Mo_stop ca va (3 : Int32) (0 : Int32)).2) cn pp px go ne gi gn) := hD
    generalize e_t4 : f_Mo_stop ca va (3 : Int32) (0 : Int32) = t4 at hP hD ⊢
    refine lv_goto (tgt := 56) hx hb d_Mo_rest_15 (by decide) ?_
    rw [f_Mo_rest_e4 ca va px f t4 e_t4 h6]
    exact W.vret hx hb hr (fun t ht hW => ⟨⟨(), rfl, trivial, by show va_P D classes _ t.heap; rw [ht]; exact hP⟩, hS.F ht⟩) hS.2.2 d_Mo_rest_56 hlocks
abbrev q_Mo_execute (D : va_G) (cI cL : ClassId) (b0 b1 b2 b3 b4 b5 b6 b7 : Nat) (A : Nat → Prop) (ev : Int32) (wr : Nat → Int32) (wg : Nat → Int64) (ke : Nat → Int32) (ma : Nat → Int32) (li : Nat → Int64) (ps : Int32) (pn : Nat → Int32) (cy : Int32) (ca : Int32) (va : Int32) (cn : Nat → Int32) (pp : Int32) (px : Int32) (go : Int32) (ne : Int32) (gi : Int32) (gn : Int32) (F : (Nat → Int32) × (Nat → Int64) × (Nat → Int64) × Int32 × Int32 × (Nat → Int32) × Int32 × Int32 × Int32 × Int32) : Array Value → State → Outcome → State → Prop := va_Qv (fun (_ : Unit) => True) (fun _ t => va_P D classes (W_Mo cI cL b0 b1 b2 b3 b4 b5 b6 b7 ev F.1 F.2.1 ke ma F.2.2.1 ps pn cy F.2.2.2.1 F.2.2.2.2.1 F.2.2.2.2.2.1 pp px F.2.2.2.2.2.2.1 F.2.2.2.2.2.2.2.1 F.2.2.2.2.2.2.2.2.1 F.2.2.2.2.2.2.2.2.2) t.heap) A
theorem f_Mo_execute_e0 (wr : Nat → Int32) (wg : Nat → Int64) (ke : Nat → Int32) (ma : Nat → Int32) (li : Nat → Int64) (ca : Int32) (va : Int32) (cn : Nat → Int32) (pp : Int32) (px : Int32) (go : Int32) (ne : Int32) (gi : Int32) (gn : Int32) (t1 : (Nat → Int64) × (Nat → Int64) × Int32 × Int32 × (Nat → Int32) × Int32 × Int32 × Int32) (e_t1 : f_Mo_load wr wg li ca va cn px go gi gn (f_Mo_field px (12 : Int32) (3 : Int32)) ((f_Mo_operand ke ma (f_Mo_field px (15 : Int32) (5 : Int32))) + (px >>> ((20 : Int32) &&& 31))) = t1) (h48_0 : (f_Mo_field px (0 : Int32) (7 : Int32)) = (3 : Int32)) : f_Mo_execute wr wg ke ma li ca va cn pp px go ne gi gn = (wr, t1.1, t1.2.1, t1.2.2.1, t1.2.2.2.1, t1.2.2.2.2.1, t1.2.2.2.2.2.1, ne, t1.2.2.2.2.2.2.1, t1.2.2.2.2.2.2.2) := by
  subst e_t1
  exact (if_pos h48_0)
theorem f_Mo_execute_e1 (wr : Nat → Int32) (wg : Nat → Int64) (ke : Nat → Int32) (ma : Nat → Int32) (li : Nat → Int64) (ca : Int32) (va : Int32) (cn : Nat → Int32) (pp : Int32) (px : Int32) (go : Int32) (ne : Int32) (gi : Int32) (gn : Int32) (t2 : Int32 × Int32 × Int32 × Int32) (e_t2 : f_Mo_reckon ca va px gi gn (f_Mo_field px (12 : Int32) (3 : Int32)) (f_Mo_field px (25 : Int32) (7 : Int32)) (f_Mo_operand ke ma (f_Mo_field px (15 : Int32) (5 : Int32))) (f_Mo_field px (20 : Int32) (5 : Int32)) (1 : Int32) = t2) (h48_0 : ¬ (f_Mo_field px (0 : Int32) (7 : Int32)) = (3 : Int32)) (h48_1 : (f_Mo_field px (0 : Int32) (7 : Int32)) = (19 : Int32)) (h258 : (f_Mo_field px (12 : Int32) (3 : Int32)) = (1 : Int32)) : f_Mo_execute wr wg ke ma li ca va cn pp px go ne gi gn = (wr, wg, li, t2.1, t2.2.1, cn, go, ne, t2.2.2.1, t2.2.2.2) := by
  subst e_t2
  exact ((if_neg h48_0).trans ((if_pos h48_1).trans (if_pos h258)))
theorem f_Mo_execute_e2 (wr : Nat → Int32) (wg : Nat → Int64) (ke : Nat → Int32) (ma : Nat → Int32) (li : Nat → Int64) (ca : Int32) (va : Int32) (cn : Nat → Int32) (pp : Int32) (px : Int32) (go : Int32) (ne : Int32) (gi : Int32) (gn : Int32) (t3 : Int32 × Int32 × Int32 × Int32) (e_t3 : f_Mo_reckon ca va px gi gn (f_Mo_field px (12 : Int32) (3 : Int32)) (f_Mo_field px (25 : Int32) (7 : Int32)) (f_Mo_operand ke ma (f_Mo_field px (15 : Int32) (5 : Int32))) (px >>> ((20 : Int32) &&& 31)) (1 : Int32) = t3) (h48_0 : ¬ (f_Mo_field px (0 : Int32) (7 : Int32)) = (3 : Int32)) (h48_1 : (f_Mo_field px (0 : Int32) (7 : Int32)) = (19 : Int32)) (h258 : ¬ (f_Mo_field px (12 : Int32) (3 : Int32)) = (1 : Int32)) (h263 : ¬ (f_Mo_field px (12 : Int32) (3 : Int32)) = (5 : Int32)) : f_Mo_execute wr wg ke ma li ca va cn pp px go ne gi gn = (wr, wg, li, t3.1, t3.2.1, cn, go, ne, t3.2.2.1, t3.2.2.2) := by
  subst e_t3
  exact ((if_neg h48_0).trans ((if_pos h48_1).trans ((if_neg h258).trans (if_neg h263))))
theorem f_Mo_execute_e3 (wr : Nat → Int32) (wg : Nat → Int64) (ke : Nat → Int32) (ma : Nat → Int32) (li : Nat → Int64) (ca : Int32) (va : Int32) (cn : Nat → Int32) (pp : Int32) (px : Int32) (go : Int32) (ne : Int32) (gi : Int32) (gn : Int32) (t4 : Int32 × Int32 × Int32 × Int32) (e_t4 : f_Mo_reckon ca va px gi gn (f_Mo_field px (12 : Int32) (3 : Int32)) (f_Mo_field px (25 : Int32) (7 : Int32)) (f_Mo_operand ke ma (f_Mo_field px (15 : Int32) (5 : Int32))) (f_Mo_field px (20 : Int32) (5 : Int32)) (1 : Int32) = t4) (h48_0 : ¬ (f_Mo_field px (0 : Int32) (7 : Int32)) = (3 : Int32)) (h48_1 : (f_Mo_field px (0 : Int32) (7 : Int32)) = (19 : Int32)) (h258 : ¬ (f_Mo_field px (12 : Int32) (3 : Int32)) = (1 : Int32)) (h263 : (f_Mo_field px (12 : Int32) (3 : Int32)) = (5 : Int32)) : f_Mo_execute wr wg ke ma li ca va cn pp px go ne gi gn = (wr, wg, li, t4.1, t4.2.1, cn, go, ne, t4.2.2.1, t4.2.2.2) := by
  subst e_t4
  exact ((if_neg h48_0).trans ((if_pos h48_1).trans ((if_neg h258).trans (if_pos h263))))
theorem f_Mo_execute_e4 (wr : Nat → Int32) (wg : Nat → Int64) (ke : Nat → Int32) (ma : Nat → Int32) (li : Nat → Int64) (ca : Int32) (va : Int32) (cn : Nat → Int32) (pp : Int32) (px : Int32) (go : Int32) (ne : Int32) (gi : Int32) (gn : Int32) (t5 : Int32 × Int32) (e_t5 : f_Mo_give gi gn (pp + (px &&& (-4096 : Int32))) = t5) (h48_0 : ¬ (f_Mo_field px (0 : Int32) (7 : Int32)) = (3 : Int32)) (h48_1 : ¬ (f_Mo_field px (0 : Int32) (7 : Int32)) = (19 : Int32)) (h48_2 : (f_Mo_field px (0 : Int32) (7 : Int32)) = (23 : Int32)) : f_Mo_execute wr wg ke ma li ca va cn pp px go ne gi gn = (wr, wg, li, ca, va, cn, go, ne, t5.1, t5.2) := by
  subst e_t5
  exact ((if_neg h48_0).trans ((if_neg h48_1).trans (if_pos h48_2)))
theorem f_Mo_execute_e5 (wr : Nat → Int32) (wg : Nat → Int64) (ke : Nat → Int32) (ma : Nat → Int32) (li : Nat → Int64) (ca : Int32) (va : Int32) (cn : Nat → Int32) (pp : Int32) (px : Int32) (go : Int32) (ne : Int32) (gi : Int32) (gn : Int32) (t6 : (Nat → Int32) × (Nat → Int64) × (Nat → Int64) × Int32 × Int32 × (Nat → Int32) × Int32) (e_t6 : f_Mo_store wr wg li ca va cn px go (f_Mo_field px (12 : Int32) (3 : Int32)) ((f_Mo_operand ke ma (f_Mo_field px (15 : Int32) (5 : Int32))) + (f_Mo_numberJ px)) (f_Mo_operand ke ma (f_Mo_field px (20 : Int32) (5 : Int32))) = t6) (h48_0 : ¬ (f_Mo_field px (0 : Int32) (7 : Int32)) = (3 : Int32)) (h48_1 : ¬ (f_Mo_field px (0 : Int32) (7 : Int32)) = (19 : Int32)) (h48_2 : ¬ (f_Mo_field px (0 : Int32) (7 : Int32)) = (23 : Int32)) (h48_3 : (f_Mo_field px (0 : Int32) (7 : Int32)) = (35 : Int32)) : f_Mo_execute wr wg ke ma li ca va cn pp px go ne gi gn = (t6.1, t6.2.1, t6.2.2.1, t6.2.2.2.1, t6.2.2.2.2.1, t6.2.2.2.2.2.1, t6.2.2.2.2.2.2, ne, gi, gn) := by
  subst e_t6
  exact ((if_neg h48_0).trans ((if_neg h48_1).trans ((if_neg h48_2).trans (if_pos h48_3))))
theorem f_Mo_execute_e6 (wr : Nat → Int32) (wg : Nat → Int64) (ke : Nat → Int32) (ma : Nat → Int32) (li : Nat → Int64) (ca : Int32) (va : Int32) (cn : Nat → Int32) (pp : Int32) (px : Int32) (go : Int32) (ne : Int32) (gi : Int32) (gn : Int32) (t7 : Int32 × Int32 × Int32 × Int32) (e_t7 : f_Mo_reckon ca va px gi gn (f_Mo_field px (12 : Int32) (3 : Int32)) (f_Mo_field px (25 : Int32) (7 : Int32)) (f_Mo_operand ke ma (f_Mo_field px (15 : Int32) (5 : Int32))) (f_Mo_operand ke ma (f_Mo_field px (20 : Int32) (5 : Int32))) (0 : Int32) = t7) (h48_0 : ¬ (f_Mo_field px (0 : Int32) (7 : Int32)) = (3 : Int32)) (h48_1 : ¬ (f_Mo_field px (0 : Int32) (7 : Int32)) = (19 : Int32)) (h48_2 : ¬ (f_Mo_field px (0 : Int32) (7 : Int32)) = (23 : Int32)) (h48_3 : ¬ (f_Mo_field px (0 : Int32) (7 : Int32)) = (35 : Int32)) (h48_4 : (f_Mo_field px (0 : Int32) (7 : Int32)) = (51 : Int32)) : f_Mo_execute wr wg ke ma li ca va cn pp px go ne gi gn = (wr, wg, li, t7.1, t7.2.1, cn, go, ne, t7.2.2.1, t7.2.2.2) := by
  subst e_t7
  exact ((if_neg h48_0).trans ((if_neg h48_1).trans ((if_neg h48_2).trans ((if_neg h48_3).trans (if_pos h48_4)))))
theorem f_Mo_execute_e7 (wr : Nat → Int32) (wg : Nat → Int64) (ke : Nat → Int32) (ma : Nat → Int32) (li : Nat → Int64) (ca : Int32) (va : Int32) (cn : Nat → Int32) (pp : Int32) (px : Int32) (go : Int32) (ne : Int32) (gi : Int32) (gn : Int32) (t8 : Int32 × Int32) (e_t8 : f_Mo_give gi gn (px &&& (-4096 : Int32)) = t8) (h48_0 : ¬ (f_Mo_field px (0 : Int32) (7 : Int32)) = (3 : Int32)) (h48_1 : ¬ (f_Mo_field px (0 : Int32) (7 : Int32)) = (19 : Int32)) (h48_2 : ¬ (f_Mo_field px (0 : Int32) (7 : Int32)) = (23 : Int32)) (h48_3 : ¬ (f_Mo_field px (0 : Int32) (7 : Int32)) = (35 : Int32)) (h48_4 : ¬ (f_Mo_field px (0 : Int32) (7 : Int32)) = (51 : Int32)) (h48_5 : (f_Mo_field px (0 : Int32) (7 : Int32)) = (55 : Int32)) : f_Mo_execute wr wg ke ma li ca va cn pp px go ne gi gn = (wr, wg, li, ca, va, cn, go, ne, t8.1, t8.2) := by
  subst e_t8
  exact ((if_neg h48_0).trans ((if_neg h48_1).trans ((if_neg h48_2).trans ((if_neg h48_3).trans ((if_neg h48_4).trans (if_pos h48_5))))))
theorem f_Mo_execute_e8 (wr : Nat → Int32) (wg : Nat → Int64) (ke : Nat → Int32) (ma : Nat → Int32) (li : Nat → Int64) (ca : Int32) (va : Int32) (cn : Nat → Int32) (pp : Int32) (px : Int32) (go : Int32) (ne : Int32) (gi : Int32) (gn : Int32) (t9 : Int32 × Int32 × Int32) (e_t9 : f_Mo_branch ca va pp px ne (f_Mo_field px (12 : Int32) (3 : Int32)) (f_Mo_operand ke ma (f_Mo_field px (15 : Int32) (5 : Int32))) (f_Mo_operand ke ma (f_Mo_field px (20 : Int32) (5 : Int32))) = t9) (h48_0 : ¬ (f_Mo_field px (0 : Int32) (7 : Int32)) = (3 : Int32)) (h48_1 : ¬ (f_Mo_field px (0 : Int32) (7 : Int32)) = (19 : Int32)) (h48_2 : ¬ (f_Mo_field px (0 : Int32) (7 : Int32)) = (23 : Int32)) (h48_3 : ¬ (f_Mo_field px (0 : Int32) (7 : Int32)) = (35 : Int32)) (h48_4 : ¬ (f_Mo_field px (0 : Int32) (7 : Int32)) = (51 : Int32)) (h48_5 : ¬ (f_Mo_field px (0 : Int32) (7 : Int32)) = (55 : Int32)) (h48_6 : (f_Mo_field px (0 : Int32) (7 : Int32)) = (99 : Int32)) : f_Mo_execute wr wg ke ma li ca va cn pp px go ne gi gn = (wr, wg, li, t9.1, t9.2.1, cn, go, t9.2.2, gi, gn) := by
  subst e_t9
  exact ((if_neg h48_0).trans ((if_neg h48_1).trans ((if_neg h48_2).trans ((if_neg h48_3).trans ((if_neg h48_4).trans ((if_neg h48_5).trans (if_pos h48_6)))))))
theorem f_Mo_execute_e9 (wr : Nat → Int32) (wg : Nat → Int64) (ke : Nat → Int32) (ma : Nat → Int32) (li : Nat → Int64) (ca : Int32) (va : Int32) (cn : Nat → Int32) (pp : Int32) (px : Int32) (go : Int32) (ne : Int32) (gi : Int32) (gn : Int32) (t10 : Int32 × Int32 × Int32 × Int32 × Int32) (e_t10 : f_Mo_jump ca va pp px ne gi gn (f_Mo_field px (12 : Int32) (3 : Int32)) (((f_Mo_operand ke ma (f_Mo_field px (15 : Int32) (5 : Int32))) + (px >>> ((20 : Int32) &&& 31))) &&& (-2 : Int32)) = t10) (h48_0 : ¬ (f_Mo_field px (0 : Int32) (7 : Int32)) = (3 : Int32)) (h48_1 : ¬ (f_Mo_field px (0 : Int32) (7 : Int32)) = (19 : Int32)) (h48_2 : ¬ (f_Mo_field px (0 : Int32) (7 : Int32)) = (23 : Int32)) (h48_3 : ¬ (f_Mo_field px (0 : Int32) (7 : Int32)) = (35 : Int32)) (h48_4 : ¬ (f_Mo_field px (0 : Int32) (7 : Int32)) = (51 : Int32)) (h48_5 : ¬ (f_Mo_field px (0 : Int32) (7 : Int32)) = (55 : Int32)) (h48_6 : ¬ (f_Mo_field px (0 : Int32) (7 : Int32)) = (99 : Int32)) (h48_7 : (f_Mo_field px (0 : Int32) (7 : Int32)) = (103 : Int32)) : f_Mo_execute wr wg ke ma li ca va cn pp px go ne gi gn = (wr, wg, li, t10.1, t10.2.1, cn, go, t10.2.2.1, t10.2.2.2.1, t10.2.2.2.2) := by
  subst e_t10
  exact ((if_neg h48_0).trans ((if_neg h48_1).trans ((if_neg h48_2).trans ((if_neg h48_3).trans ((if_neg h48_4).trans ((if_neg h48_5).trans ((if_neg h48_6).trans (if_pos h48_7))))))))
theorem f_Mo_execute_e10 (wr : Nat → Int32) (wg : Nat → Int64) (ke : Nat → Int32) (ma : Nat → Int32) (li : Nat → Int64) (ca : Int32) (va : Int32) (cn : Nat → Int32) (pp : Int32) (px : Int32) (go : Int32) (ne : Int32) (gi : Int32) (gn : Int32) (t11 : Int32 × Int32) (t12 : Int32 × Int32 × Int32) (e_t11 : f_Mo_give gi gn (pp + (4 : Int32)) = t11) (e_t12 : f_Mo_go ca va ne (pp + (f_Mo_numberL px)) = t12) (h48_0 : ¬ (f_Mo_field px (0 : Int32) (7 : Int32)) = (3 : Int32)) (h48_1 : ¬ (f_Mo_field px (0 : Int32) (7 : Int32)) = (19 : Int32)) (h48_2 : ¬ (f_Mo_field px (0 : Int32) (7 : Int32)) = (23 : Int32)) (h48_3 : ¬ (f_Mo_field px (0 : Int32) (7 : Int32)) = (35 : Int32)) (h48_4 : ¬ (f_Mo_field px (0 : Int32) (7 : Int32)) = (51 : Int32)) (h48_5 : ¬ (f_Mo_field px (0 : Int32) (7 : Int32)) = (55 : Int32)) (h48_6 : ¬ (f_Mo_field px (0 : Int32) (7 : Int32)) = (99 : Int32)) (h48_7 : ¬ (f_Mo_field px (0 : Int32) (7 : Int32)) = (103 : Int32)) (h48_8 : (f_Mo_field px (0 : Int32) (7 : Int32)) = (111 : Int32)) : f_Mo_execute wr wg ke ma li ca va cn pp px go ne gi gn = (wr, wg, li, t12.1, t12.2.1, cn, go, t12.2.2, t11.1, t11.2) := by
  subst e_t12
  subst e_t11
  exact ((if_neg h48_0).trans ((if_neg h48_1).trans ((if_neg h48_2).trans ((if_neg h48_3).trans ((if_neg h48_4).trans ((if_neg h48_5).trans ((if_neg h48_6).trans ((if_neg h48_7).trans (if_pos h48_8)))))))))
theorem f_Mo_execute_e11 (wr : Nat → Int32) (wg : Nat → Int64) (ke : Nat → Int32) (ma : Nat → Int32) (li : Nat → Int64) (ca : Int32) (va : Int32) (cn : Nat → Int32) (pp : Int32) (px : Int32) (go : Int32) (ne : Int32) (gi : Int32) (gn : Int32) (t13 : Int32 × Int32) (e_t13 : f_Mo_rest ca va px (f_Mo_field px (12 : Int32) (3 : Int32)) = t13) (h48_0 : ¬ (f_Mo_field px (0 : Int32) (7 : Int32)) = (3 : Int32)) (h48_1 : ¬ (f_Mo_field px (0 : Int32) (7 : Int32)) = (19 : Int32)) (h48_2 : ¬ (f_Mo_field px (0 : Int32) (7 : Int32)) = (23 : Int32)) (h48_3 : ¬ (f_Mo_field px (0 : Int32) (7 : Int32)) = (35 : Int32)) (h48_4 : ¬ (f_Mo_field px (0 : Int32) (7 : Int32)) = (51 : Int32)) (h48_5 : ¬ (f_Mo_field px (0 : Int32) (7 : Int32)) = (55 : Int32)) (h48_6 : ¬ (f_Mo_field px (0 : Int32) (7 : Int32)) = (99 : Int32)) (h48_7 : ¬ (f_Mo_field px (0 : Int32) (7 : Int32)) = (103 : Int32)) (h48_8 : ¬ (f_Mo_field px (0 : Int32) (7 : Int32)) = (111 : Int32)) : f_Mo_execute wr wg ke ma li ca va cn pp px go ne gi gn = (wr, wg, li, t13.1, t13.2, cn, go, ne, gi, gn) := by
  subst e_t13
  exact ((if_neg h48_0).trans ((if_neg h48_1).trans ((if_neg h48_2).trans ((if_neg h48_3).trans ((if_neg h48_4).trans ((if_neg h48_5).trans ((if_neg h48_6).trans ((if_neg h48_7).trans (if_neg h48_8)))))))))
set_option maxHeartbeats 4000000 in
set_option maxRecDepth 100000 in
theorem c_Mo_execute (l : Launch) (D : va_G) (cI cL : ClassId) (b0 b1 b2 b3 b4 b5 b6 b7 : Nat) (sz : Nat) (ev : Int32) (wr : Nat → Int32) (wg : Nat → Int64) (ke : Nat → Int32) (ma : Nat → Int32) (li : Nat → Int64) (ps : Int32) (pn : Nat → Int32) (cy : Int32) (ca : Int32) (va : Int32) (cn : Nat → Int32) (pp : Int32) (px : Int32) (go : Int32) (ne : Int32) (gi : Int32) (gn : Int32)   : Met l y_Mo_execute w_Mo_execute ({ frames := 5, cells := 0, slots := 0, locals := 116 }) (va_Pc [.ref b0] (PW D cI cL (W_Mo cI cL b0 b1 b2 b3 b4 b5 b6 b7 ev wr wg ke ma li ps pn cy ca va cn pp px go ne gi gn) sz)) (q_Mo_execute D cI cL b0 b1 b2 b3 b4 b5 b6 b7 (va_A (W_Mo cI cL b0 b1 b2 b3 b4 b5 b6 b7 ev wr wg ke ma li ps pn cy ca va cn pp px go ne gi gn) sz) ev wr wg ke ma li ps pn cy ca va cn pp px go ne gi gn (f_Mo_execute wr wg ke ma li ca va cn pp px go ne gi gn)) 0 0 (va_A (W_Mo cI cL b0 b1 b2 b3 b4 b5 b6 b7 ev wr wg ke ma li ps pn cy ca va cn pp px go ne gi gn) sz) := by
  refine mk_met (Qf := fun A => q_Mo_execute D cI cL b0 b1 b2 b3 b4 b5 b6 b7 A ev wr wg ke ma li ps pn cy ca va cn pp px go ne gi gn (f_Mo_execute wr wg ke ma li ca va cn pp px go ne gi gn)) (by decide) (Nat.le_of_ble_eq_true rfl) ?_
  intro p e s m below meth c A ls hx hb hr hlocks hml hown hg hK hN hT hA hP hD hS hnm hl
  refine lv_aload_n hx hb d_Mo_execute_0 rfl (lv_at hl 0 rfl) ?_
  refine lv_bipush (v := 12) hx hb d_Mo_execute_1 (by decide) ?_
  refine lv_iconst (v := 3) hx hb d_Mo_execute_3 (by decide) ?_
  refine cj_i (wc := (W_Mo cI cL b0 b1 b2 b3 b4 b5 b6 b7 ev wr wg ke ma li ps pn cy ca va cn pp px go ne gi gn)) (w1 := (W_Mo cI cL b0 b1 b2 b3 b4 b5 b6 b7 ev wr wg ke ma li ps pn cy ca va cn pp px go ne gi gn)) hP hD hS hA [0, 1, 2, 3, 4, 5, 6, 7] rfl [b0, b1, b2, b3, b4, b5, b6, b7] rfl rfl (va_runV (rest := []) ⟨hx, hb, hml, hown, hg⟩ (c_Mo_field l D cI cL b0 b1 b2 b3 b4 b5 b6 b7 _ ev wr wg ke ma li ps pn cy ca va cn pp px go ne gi gn (12 : Int32) (3 : Int32)) ⟨callB_of 2 hg (gw_good m_637) rfl rfl rfl (hg _ m_71) (hg _ m_634) hd_Mo_field ⟨Nat.le_of_ble_eq_true rfl, Nat.le_of_ble_eq_true rfl⟩, hg _ m_636, hg _ m_45⟩ (pw_V hK hN hT hA hP hD hS [0, 1, 2, 3, 4, 5, 6, 7] rfl (by decide) (q0 := 0) (ci := 5) rfl rfl) rfl rfl hl.1 rfl (lv_room (Nat.le_of_ble_eq_true rfl)) d_Mo_execute_4 ⟨Nat.le_of_ble_eq_true rfl, Nat.le_of_ble_eq_true rfl⟩) (fun H locs hP hD hS => ?_)
  have hP : va_P D classes (W_Mo cI cL b0 b1 b2 b3 b4 b5 b6 b7 ev wr wg ke ma li ps pn cy ca va cn pp px go ne gi gn) H := hP
  have hD : va_D A (W_Mo cI cL b0 b1 b2 b3 b4 b5 b6 b7 ev wr wg ke ma li ps pn cy ca va cn pp px go ne gi gn) := hD
  refine lv_istore_n (lv' := [(1, .int _), (0, .ref _)]) hx hb d_Mo_execute_7 rfl hl (by decide) rfl (fun ls hl => ?_)
  refine lv_aload_n hx hb d_Mo_execute_8 rfl (lv_at hl 1 rfl) ?_
  refine lv_aload_n hx hb d_Mo_execute_9 rfl (lv_at hl 1 rfl) ?_
  refine lv_bipush (v := 15) hx hb d_Mo_execute_10 (by decide) ?_
  refine lv_iconst (v := 5) hx hb d_Mo_execute_12 (by decide) ?_
  refine cj_i (wc := (W_Mo cI cL b0 b1 b2 b3 b4 b5 b6 b7 ev wr wg ke ma li ps pn cy ca va cn pp px go ne gi gn)) (w1 := (W_Mo cI cL b0 b1 b2 b3 b4 b5 b6 b7 ev wr wg ke ma li ps pn cy ca va cn pp px go ne gi gn)) hP hD hS hA [0, 1, 2, 3, 4, 5, 6, 7] rfl [b0, b1, b2, b3, b4, b5, b6, b7] rfl rfl (va_runV (rest := [.ref _]) ⟨hx, hb, hml, hown, hg⟩ (c_Mo_field l D cI cL b0 b1 b2 b3 b4 b5 b6 b7 _ ev wr wg ke ma li ps pn cy ca va cn pp px go ne gi gn (15 : Int32) (5 : Int32)) ⟨callB_of 2 hg (gw_good m_637) rfl rfl rfl (hg _ m_71) (hg _ m_634) hd_Mo_field ⟨Nat.le_of_ble_eq_true rfl, Nat.le_of_ble_eq_true rfl⟩, hg _ m_636, hg _ m_45⟩ (pw_V hK hN hT hA hP hD hS [0, 1, 2, 3, 4, 5, 6, 7] rfl (by decide) (q0 := 0) (ci := 5) rfl rfl) rfl rfl hl.1 rfl (lv_room (Nat.le_of_ble_eq_true rfl)) d_Mo_execute_13 ⟨Nat.le_of_ble_eq_true rfl, Nat.le_of_ble_eq_true rfl⟩) (fun H locs hP hD hS => ?_)
  have hP : va_P D classes (W_Mo cI cL b0 b1 b2 b3 b4 b5 b6 b7 ev wr wg ke ma li ps pn cy ca va cn pp px go ne gi gn) H := hP
  have hD : va_D A (W_Mo cI cL b0 b1 b2 b3 b4 b5 b6 b7 ev wr wg ke ma li ps pn cy ca va cn pp px go ne gi gn) := hD
  refine cj_i (wc := (W_Mo cI cL b0 b1 b2 b3 b4 b5 b6 b7 ev wr wg ke ma li ps pn cy ca va cn pp px go ne gi gn)) (w1 := (W_Mo cI cL b0 b1 b2 b3 b4 b5 b6 b7 ev wr wg ke ma li ps pn cy ca va cn pp px go ne gi gn)) hP hD hS hA [0, 1, 2, 3, 4, 5, 6, 7] rfl [b0, b1, b2, b3, b4, b5, b6, b7] rfl rfl (va_runV (rest := []) ⟨hx, hb, hml, hown, hg⟩ (c_Mo_operand l D cI cL b0 b1 b2 b3 b4 b5 b6 b7 _ ev wr wg ke ma li ps pn cy ca va cn pp px go ne gi gn (f_Mo_field px (15 : Int32) (5 : Int32)) (in_fld _ _)) ⟨callB_of 1 hg (gw_good m_641) rfl rfl rfl (hg _ m_71) (hg _ m_638) hd_Mo_operand ⟨Nat.le_of_ble_eq_true rfl, Nat.le_of_ble_eq_true rfl⟩, hg _ m_640, hg _ m_46⟩ (pw_V hK hN hT hA hP hD hS [0, 1, 2, 3, 4, 5, 6, 7] rfl (by decide) (q0 := 0) (ci := 5) rfl rfl) rfl rfl hl.1 rfl (lv_room (Nat.le_of_ble_eq_true rfl)) d_Mo_execute_16 ⟨Nat.le_of_ble_eq_true rfl, Nat.le_of_ble_eq_true rfl⟩) (fun H locs hP hD hS => ?_)
  have hP : va_P D classes (W_Mo cI cL b0 b1 b2 b3 b4 b5 b6 b7 ev wr wg ke ma li ps pn cy ca va cn pp px go ne gi gn) H := hP
  have hD : va_D A (W_Mo cI cL b0 b1 b2 b3 b4 b5 b6 b7 ev wr wg ke ma li ps pn cy ca va cn pp px go ne gi gn) := hD
  refine lv_istore_n (lv' := [(2, .int _), (1, .int _), (0, .ref _)]) hx hb d_Mo_execute_19 rfl hl (by decide) rfl (fun ls hl => ?_)
  refine lv_aload_n hx hb d_Mo_execute_20 rfl (lv_at hl 2 rfl) ?_
  refine lv_aload_n hx hb d_Mo_execute_21 rfl (lv_at hl 2 rfl) ?_
  refine lv_bipush (v := 20) hx hb d_Mo_execute_22 (by decide) ?_
  refine lv_iconst (v := 5) hx hb d_Mo_execute_24 (by decide) ?_
  refine cj_i (wc := (W_Mo cI cL b0 b1 b2 b3 b4 b5 b6 b7 ev wr wg ke ma li ps pn cy ca va cn pp px go ne gi gn)) (w1 := (W_Mo cI cL b0 b1 b2 b3 b4 b5 b6 b7 ev wr wg ke ma li ps pn cy ca va cn pp px go ne gi gn)) hP hD hS hA [0, 1, 2, 3, 4, 5, 6, 7] rfl [b0, b1, b2, b3, b4, b5, b6, b7] rfl rfl (va_runV (rest := [.ref _]) ⟨hx, hb, hml, hown, hg⟩ (c_Mo_field l D cI cL b0 b1 b2 b3 b4 b5 b6 b7 _ ev wr wg ke ma li ps pn cy ca va cn pp px go ne gi gn (20 : Int32) (5 : Int32)) ⟨callB_of 2 hg (gw_good m_637) rfl rfl rfl (hg _ m_71) (hg _ m_634) hd_Mo_field ⟨Nat.le_of_ble_eq_true rfl, Nat.le_of_ble_eq_true rfl⟩, hg _ m_636, hg _ m_45⟩ (pw_V hK hN hT hA hP hD hS [0, 1, 2, 3, 4, 5, 6, 7] rfl (by decide) (q0 := 0) (ci := 5) rfl rfl) rfl rfl hl.1 rfl (lv_room (Nat.le_of_ble_eq_true rfl)) d_Mo_execute_25 ⟨Nat.le_of_ble_eq_true rfl, Nat.le_of_ble_eq_true rfl⟩) (fun H locs hP hD hS => ?_)
  have hP : va_P D classes (W_Mo cI cL b0 b1 b2 b3 b4 b5 b6 b7 ev wr wg ke ma li ps pn cy ca va cn pp px go ne gi gn) H := hP
  have hD : va_D A (W_Mo cI cL b0 b1 b2 b3 b4 b5 b6 b7 ev wr wg ke ma li ps pn cy ca va cn pp px go ne gi gn) := hD
  refine cj_i (wc := (W_Mo cI cL b0 b1 b2 b3 b4 b5 b6 b7 ev wr wg ke ma li ps pn cy ca va cn pp px go ne gi gn)) (w1 := (W_Mo cI cL b0 b1 b2 b3 b4 b5 b6 b7 ev wr wg ke ma li ps pn cy ca va cn pp px go ne gi gn)) hP hD hS hA [0, 1, 2, 3, 4, 5, 6, 7] rfl [b0, b1, b2, b3, b4, b5, b6, b7] rfl rfl (va_runV (rest := []) ⟨hx, hb, hml, hown, hg⟩ (c_Mo_operand l D cI cL b0 b1 b2 b3 b4 b5 b6 b7 _ ev wr wg ke ma li ps pn cy ca va cn pp px go ne gi gn (f_Mo_field px (20 : Int32) (5 : Int32)) (in_fld _ _)) ⟨callB_of 1 hg (gw_good m_641) rfl rfl rfl (hg _ m_71) (hg _ m_638) hd_Mo_operand ⟨Nat.le_of_ble_eq_true rfl, Nat.le_of_ble_eq_true rfl⟩, hg _ m_640, hg _ m_46⟩ (pw_V hK hN hT hA hP hD hS [0, 1, 2, 3, 4, 5, 6, 7] rfl (by decide) (q0 := 0) (ci := 5) rfl rfl) rfl rfl hl.1 rfl (lv_room (Nat.le_of_ble_eq_true rfl)) d_Mo_execute_28 ⟨Nat.le_of_ble_eq_true rfl, Nat.le_of_ble_eq_true rfl⟩) (fun H locs hP hD hS => ?_)
  have hP : va_P D classes (W_Mo cI cL b0 b1 b2 b3 b4 b5 b6 b7 ev wr wg ke ma li ps pn cy ca va cn pp px go ne gi gn) H := hP
  have hD : va_D A (W_Mo cI cL b0 b1 b2 b3 b4 b5 b6 b7 ev wr wg ke ma li ps pn cy ca va cn pp px go ne gi gn) := hD
  refine lv_istore_n (lv' := [(3, .int _), (2, .int _), (1, .int _), (0, .ref _)]) hx hb d_Mo_execute_31 rfl hl (by decide) rfl (fun ls hl => ?_)
  refine lv_aload_n hx hb d_Mo_execute_32 rfl (lv_at hl 3 rfl) ?_
  refine va_get (ci := 5) (C := R_Mo) (T := F_Mo) (N := 18) hx hb hg in_Mo hown hK hP 0 rfl rfl 13 (by decide) (hg _ m_516) (fun _ h => h) rfl d_Mo_execute_33 ?_
  refine lv_bipush (v := 20) hx hb d_Mo_execute_36 (by decide) ?_
  refine lv_ishr hx hb d_Mo_execute_38 ?_
  refine lv_istore (lv' := [(4, .int _), (3, .int _), (2, .int _), (1, .int _), (0, .ref _)]) hx hb d_Mo_execute_39 hl (by decide) rfl (fun ls hl => ?_)
  refine lv_aload_n hx hb d_Mo_execute_41 rfl (lv_at hl 4 rfl) ?_
  refine lv_iconst (v := 0) hx hb d_Mo_execute_42 (by decide) ?_
  refine lv_bipush (v := 7) hx hb d_Mo_execute_43 (by decide) ?_
  refine cj_i (wc := (W_Mo cI cL b0 b1 b2 b3 b4 b5 b6 b7 ev wr wg ke ma li ps pn cy ca va cn pp px go ne gi gn)) (w1 := (W_Mo cI cL b0 b1 b2 b3 b4 b5 b6 b7 ev wr wg ke ma li ps pn cy ca va cn pp px go ne gi gn)) hP hD hS hA [0, 1, 2, 3, 4, 5, 6, 7] rfl [b0, b1, b2, b3, b4, b5, b6, b7] rfl rfl (va_runV (rest := []) ⟨hx, hb, hml, hown, hg⟩ (c_Mo_field l D cI cL b0 b1 b2 b3 b4 b5 b6 b7 _ ev wr wg ke ma li ps pn cy ca va cn pp px go ne gi gn (0 : Int32) (7 : Int32)) ⟨callB_of 2 hg (gw_good m_637) rfl rfl rfl (hg _ m_71) (hg _ m_634) hd_Mo_field ⟨Nat.le_of_ble_eq_true rfl, Nat.le_of_ble_eq_true rfl⟩, hg _ m_636, hg _ m_45⟩ (pw_V hK hN hT hA hP hD hS [0, 1, 2, 3, 4, 5, 6, 7] rfl (by decide) (q0 := 0) (ci := 5) rfl rfl) rfl rfl hl.1 rfl (lv_room (Nat.le_of_ble_eq_true rfl)) d_Mo_execute_45 ⟨Nat.le_of_ble_eq_true rfl, Nat.le_of_ble_eq_true rfl⟩) (fun H locs hP hD hS => ?_)
  have hP : va_P D classes (W_Mo cI cL b0 b1 b2 b3 b4 b5 b6 b7 ev wr wg ke ma li ps pn cy ca va cn pp px go ne gi gn) H := hP
  have hD : va_D A (W_Mo cI cL b0 b1 b2 b3 b4 b5 b6 b7 ev wr wg ke ma li ps pn cy ca va cn pp px go ne gi gn) := hD
  by_cases h48_0 : (f_Mo_field px (0 : Int32) (7 : Int32)) = (3 : Int32)
  · refine lv_lookup (off := 170) (tgt := 218) hx hb d_Mo_execute_48 (by decide) (by first | (rw [h48_0]; done) | (rw [h48_0]; rfl)) (by decide) ?_
    refine lv_aload_n hx hb d_Mo_execute_218 rfl (lv_at hl 4 rfl) ?_
    refine lv_iload_n hx hb d_Mo_execute_219 rfl (lv_at hl 3 rfl) ?_
    refine lv_iload_n hx hb d_Mo_execute_220 rfl (lv_at hl 2 rfl) ?_
    refine lv_iload hx hb d_Mo_execute_221 (lv_at hl 0 rfl) ?_
    refine lv_iadd hx hb d_Mo_execute_223 ?_
    refine cj_v (wc := (W_Mo cI cL b0 b1 b2 b3 b4 b5 b6 b7 ev wr wg ke ma li ps pn cy ca va cn pp px go ne gi gn)) (w1 := (W_Mo cI cL b0 b1 b2 b3 b4 b5 b6 b7 ev wr ((f_Mo_load wr wg li ca va cn px go gi gn (f_Mo_field px (12 : Int32) (3 : Int32)) ((f_Mo_operand ke ma (f_Mo_field px (15 : Int32) (5 : Int32))) + (px >>> ((20 : Int32) &&& 31)))).1) ke ma ((f_Mo_load wr wg li ca va cn px go gi gn (f_Mo_field px (12 : Int32) (3 : Int32)) ((f_Mo_operand ke ma (f_Mo_field px (15 : Int32) (5 : Int32))) + (px >>> ((20 : Int32) &&& 31)))).2.1) ps pn cy ((f_Mo_load wr wg li ca va cn px go gi gn (f_Mo_field px (12 : Int32) (3 : Int32)) ((f_Mo_operand ke ma (f_Mo_field px (15 : Int32) (5 : Int32))) + (px >>> ((20 : Int32) &&& 31)))).2.2.1) ((f_Mo_load wr wg li ca va cn px go gi gn (f_Mo_field px (12 : Int32) (3 : Int32)) ((f_Mo_operand ke ma (f_Mo_field px (15 : Int32) (5 : Int32))) + (px >>> ((20 : Int32) &&& 31)))).2.2.2.1) ((f_Mo_load wr wg li ca va cn px go gi gn (f_Mo_field px (12 : Int32) (3 : Int32)) ((f_Mo_operand ke ma (f_Mo_field px (15 : Int32) (5 : Int32))) + (px >>> ((20 : Int32) &&& 31)))).2.2.2.2.1) pp px ((f_Mo_load wr wg li ca va cn px go gi gn (f_Mo_field px (12 : Int32) (3 : Int32)) ((f_Mo_operand ke ma (f_Mo_field px (15 : Int32) (5 : Int32))) + (px >>> ((20 : Int32) &&& 31)))).2.2.2.2.2.1) ne ((f_Mo_load wr wg li ca va cn px go gi gn (f_Mo_field px (12 : Int32) (3 : Int32)) ((f_Mo_operand ke ma (f_Mo_field px (15 : Int32) (5 : Int32))) + (px >>> ((20 : Int32) &&& 31)))).2.2.2.2.2.2.1) ((f_Mo_load wr wg li ca va cn px go gi gn (f_Mo_field px (12 : Int32) (3 : Int32)) ((f_Mo_operand ke ma (f_Mo_field px (15 : Int32) (5 : Int32))) + (px >>> ((20 : Int32) &&& 31)))).2.2.2.2.2.2.2))) hP hD hS hA [0, 1, 2, 3, 4, 5, 6, 7] rfl [b0, b1, b2, b3, b4, b5, b6, b7] rfl rfl (va_runV (rest := []) ⟨hx, hb, hml, hown, hg⟩ (c_Mo_load l D cI cL b0 b1 b2 b3 b4 b5 b6 b7 _ ev wr wg ke ma li ps pn cy ca va cn pp px go ne gi gn (f_Mo_field px (12 : Int32) (3 : Int32)) ((f_Mo_operand ke ma (f_Mo_field px (15 : Int32) (5 : Int32))) + (px >>> ((20 : Int32) &&& 31)))) ⟨callB_of 2 hg (gw_good m_676) rfl rfl rfl (hg _ m_71) (hg _ m_673) hd_Mo_load ⟨Nat.le_of_ble_eq_true rfl, Nat.le_of_ble_eq_true rfl⟩, hg _ m_675, hg _ m_54⟩ (pw_V hK hN hT hA hP hD hS [0, 1, 2, 3, 4, 5, 6, 7] rfl (by decide) (q0 := 0) (ci := 5) rfl rfl) rfl rfl hl.1 rfl (lv_room (Nat.le_of_ble_eq_true rfl)) d_Mo_execute_224 ⟨Nat.le_of_ble_eq_true rfl, Nat.le_of_ble_eq_true rfl⟩) (fun H locs hP hD hS => ?_)
    have hP : va_P D classes (W_Mo cI cL b0 b1 b2 b3 b4 b5 b6 b7 ev wr ((f_Mo_load wr wg li ca va cn px go gi gn (f_Mo_field px (12 : Int32) (3 : Int32)) ((f_Mo_operand ke ma (f_Mo_field px (15 : Int32) (5 : Int32))) + (px >>> ((20 : Int32) &&& 31)))).1) ke ma ((f_Mo_load wr wg li ca va cn px go gi gn (f_Mo_field px (12 : Int32) (3 : Int32)) ((f_Mo_operand ke ma (f_Mo_field px (15 : Int32) (5 : Int32))) + (px >>> ((20 : Int32) &&& 31)))).2.1) ps pn cy ((f_Mo_load wr wg li ca va cn px go gi gn (f_Mo_field px (12 : Int32) (3 : Int32)) ((f_Mo_operand ke ma (f_Mo_field px (15 : Int32) (5 : Int32))) + (px >>> ((20 : Int32) &&& 31)))).2.2.1) ((f_Mo_load wr wg li ca va cn px go gi gn (f_Mo_field px (12 : Int32) (3 : Int32)) ((f_Mo_operand ke ma (f_Mo_field px (15 : Int32) (5 : Int32))) + (px >>> ((20 : Int32) &&& 31)))).2.2.2.1) ((f_Mo_load wr wg li ca va cn px go gi gn (f_Mo_field px (12 : Int32) (3 : Int32)) ((f_Mo_operand ke ma (f_Mo_field px (15 : Int32) (5 : Int32))) + (px >>> ((20 : Int32) &&& 31)))).2.2.2.2.1) pp px ((f_Mo_load wr wg li ca va cn px go gi gn (f_Mo_field px (12 : Int32) (3 : Int32)) ((f_Mo_operand ke ma (f_Mo_field px (15 : Int32) (5 : Int32))) + (px >>> ((20 : Int32) &&& 31)))).2.2.2.2.2.1) ne ((f_Mo_load wr wg li ca va cn px go gi gn (f_Mo_field px (12 : Int32) (3 : Int32)) ((f_Mo_operand ke ma (f_Mo_field px (15 : Int32) (5 : Int32))) + (px >>> ((20 : Int32) &&& 31)))).2.2.2.2.2.2.1) ((f_Mo_load wr wg li ca va cn px go gi gn (f_Mo_field px (12 : Int32) (3 : Int32)) ((f_Mo_operand ke ma (f_Mo_field px (15 : Int32) (5 : Int32))) + (px >>> ((20 : Int32) &&& 31)))).2.2.2.2.2.2.2)) H := hP
    have hD : va_D A (W_Mo cI cL b0 b1 b2 b3 b4 b5 b6 b7 ev wr ((f_Mo_load wr wg li ca va cn px go gi gn (f_Mo_field px (12 : Int32) (3 : Int32)) ((f_Mo_operand ke ma (f_Mo_field px (15 : Int32) (5 : Int32))) + (px >>> ((20 : Int32) &&& 31)))).1) ke ma ((f_Mo_load wr wg li ca va cn px go gi gn (f_Mo_field px (12 : Int32) (3 : Int32)) ((f_Mo_operand ke ma (f_Mo_field px (15 : Int32) (5 : Int32))) + (px >>> ((20 : Int32) &&& 31)))).2.1) ps pn cy ((f_Mo_load wr wg li ca va cn px go gi gn (f_Mo_field px (12 : Int32) (3 : Int32)) ((f_Mo_operand ke ma (f_Mo_field px (15 : Int32) (5 : Int32))) + (px >>> ((20 : Int32) &&& 31)))).2.2.1) ((f_Mo_load wr wg li ca va cn px go gi gn (f_Mo_field px (12 : Int32) (3 : Int32)) ((f_Mo_operand ke ma (f_Mo_field px (15 : Int32) (5 : Int32))) + (px >>> ((20 : Int32) &&& 31)))).2.2.2.1) ((f_Mo_load wr wg li ca va cn px go gi gn (f_Mo_field px (12 : Int32) (3 : Int32)) ((f_Mo_operand ke ma (f_Mo_field px (15 : Int32) (5 : Int32))) + (px >>> ((20 : Int32) &&& 31)))).2.2.2.2.1) pp px ((f_Mo_load wr wg li ca va cn px go gi gn (f_Mo_field px (12 : Int32) (3 : Int32)) ((f_Mo_operand ke ma (f_Mo_field px (15 : Int32) (5 : Int32))) + (px >>> ((20 : Int32) &&& 31)))).2.2.2.2.2.1) ne ((f_Mo_load wr wg li ca va cn px go gi gn (f_Mo_field px (12 : Int32) (3 : Int32)) ((f_Mo_operand ke ma (f_Mo_field px (15 : Int32) (5 : Int32))) + (px >>> ((20 : Int32) &&& 31)))).2.2.2.2.2.2.1) ((f_Mo_load wr wg li ca va cn px go gi gn (f_Mo_field px (12 : Int32) (3 : Int32)) ((f_Mo_operand ke ma (f_Mo_field px (15 : Int32) (5 : Int32))) + (px >>> ((20 : Int32) &&& 31)))).2.2.2.2.2.2.2)) := hD
    generalize e_t1 : f_Mo_load wr wg li ca va cn px go gi gn (f_Mo_field px (12 : Int32) (3 : Int32)) ((f_Mo_operand ke ma (f_Mo_field px (15 : Int32) (5 : Int32))) + (px >>> ((20 : Int32) &&& 31))) = t1 at hP hD ⊢
    refine lv_goto (tgt := 309) hx hb d_Mo_execute_227 (by decide) ?_
    rw [f_Mo_execute_e0 wr wg ke ma li ca va cn pp px go ne gi gn t1 e_t1 h48_0]
    exact W.vret hx hb hr (fun t ht hW => ⟨⟨(), rfl, trivial, by show va_P D classes _ t.heap; rw [ht]; exact hP⟩, hS.F ht⟩) hS.2.2 d_Mo_execute_309 hlocks
  · by_cases h48_1 : (f_Mo_field px (0 : Int32) (7 : Int32)) = (19 : Int32)
    · refine lv_lookup (off := 197) (tgt := 245) hx hb d_Mo_execute_48 (by decide) (by first | (rw [h48_1]; done) | (rw [h48_1]; rfl)) (by decide) ?_
      refine lv_aload_n hx hb d_Mo_execute_245 rfl (lv_at hl 4 rfl) ?_
      refine lv_iload_n hx hb d_Mo_execute_246 rfl (lv_at hl 3 rfl) ?_
      refine lv_aload_n hx hb d_Mo_execute_247 rfl (lv_at hl 4 rfl) ?_
      refine lv_bipush (v := 25) hx hb d_Mo_execute_248 (by decide) ?_
      refine lv_bipush (v := 7) hx hb d_Mo_execute_250 (by decide) ?_
      refine cj_i (wc := (W_Mo cI cL b0 b1 b2 b3 b4 b5 b6 b7 ev wr wg ke ma li ps pn cy ca va cn pp px go ne gi gn)) (w1 := (W_Mo cI cL b0 b1 b2 b3 b4 b5 b6 b7 ev wr wg ke ma li ps pn cy ca va cn pp px go ne gi gn)) hP hD hS hA [0, 1, 2, 3, 4, 5, 6, 7] rfl [b0, b1, b2, b3, b4, b5, b6, b7] rfl rfl (va_runV (rest := [.int _, .ref _]) ⟨hx, hb, hml, hown, hg⟩ (c_Mo_field l D cI cL b0 b1 b2 b3 b4 b5 b6 b7 _ ev wr wg ke ma li ps pn cy ca va cn pp px go ne gi gn (25 : Int32) (7 : Int32)) ⟨callB_of 2 hg (gw_good m_637) rfl rfl rfl (hg _ m_71) (hg _ m_634) hd_Mo_field ⟨Nat.le_of_ble_eq_true rfl, Nat.le_of_ble_eq_true rfl⟩, hg _ m_636, hg _ m_45⟩ (pw_V hK hN hT hA hP hD hS [0, 1, 2, 3, 4, 5, 6, 7] rfl (by decide) (q0 := 0) (ci := 5) rfl rfl) rfl rfl hl.1 rfl (lv_room (Nat.le_of_ble_eq_true rfl)) d_Mo_execute_252 ⟨Nat.le_of_ble_eq_true rfl, Nat.le_of_ble_eq_true rfl⟩) (fun H locs hP hD hS => ?_)
      have hP : va_P D classes (W_Mo cI cL b0 b1 b2 b3 b4 b5 b6 b7 ev wr wg ke ma li ps pn cy ca va cn pp px go ne gi gn) H := hP
      have hD : va_D A (W_Mo cI cL b0 b1 b2 b3 b4 b5 b6 b7 ev wr wg ke ma li ps pn cy ca va cn pp px go ne gi gn) := hD
      refine lv_iload_n hx hb d_Mo_execute_255 rfl (lv_at hl 2 rfl) ?_
      refine lv_iload_n hx hb d_Mo_execute_256 rfl (lv_at hl 3 rfl) ?_
      refine lv_iconst (v := 1) hx hb d_Mo_execute_257 (by decide) ?_
      refine lv_icmp_eq (tgt := 266) hx hb d_Mo_execute_258 (by decide) (fun h258 => ?_) (fun h258 => ?_)
      · refine lv_aload_n hx hb d_Mo_execute_266 rfl (lv_at hl 4 rfl) ?_
        refine lv_bipush (v := 20) hx hb d_Mo_execute_267 (by decide) ?_
        refine lv_iconst (v := 5) hx hb d_Mo_execute_269 (by decide) ?_
        refine cj_i (wc := (W_Mo cI cL b0 b1 b2 b3 b4 b5 b6 b7 ev wr wg ke ma li ps pn cy ca va cn pp px go ne gi gn)) (w1 := (W_Mo cI cL b0 b1 b2 b3 b4 b5 b6 b7 ev wr wg ke ma li ps pn cy ca va cn pp px go ne gi gn)) hP hD hS hA [0, 1, 2, 3, 4, 5, 6, 7] rfl [b0, b1, b2, b3, b4, b5, b6, b7] rfl rfl (va_runV (rest := [.int _, .int _, .int _, .ref _]) ⟨hx, hb, hml, hown, hg⟩ (c_Mo_field l D cI cL b0 b1 b2 b3 b4 b5 b6 b7 _ ev wr wg ke ma li ps pn cy ca va cn pp px go ne gi gn (20 : Int32) (5 : Int32)) ⟨callB_of 2 hg (gw_good m_637) rfl rfl rfl (hg _ m_71) (hg _ m_634) hd_Mo_field ⟨Nat.le_of_ble_eq_true rfl, Nat.le_of_ble_eq_true rfl⟩, hg _ m_636, hg _ m_45⟩ (pw_V hK hN hT hA hP hD hS [0, 1, 2, 3, 4, 5, 6, 7] rfl (by decide) (q0 := 0) (ci := 5) rfl rfl) rfl rfl hl.1 rfl (lv_room (Nat.le_of_ble_eq_true rfl)) d_Mo_execute_270 ⟨Nat.le_of_ble_eq_true rfl, Nat.le_of_ble_eq_true rfl⟩) (fun H locs hP hD hS => ?_)
        have hP : va_P D classes (W_Mo cI cL b0 b1 b2 b3 b4 b5 b6 b7 ev wr wg ke ma li ps pn cy ca va cn pp px go ne gi gn) H := hP
        have hD : va_D A (W_Mo cI cL b0 b1 b2 b3 b4 b5 b6 b7 ev wr wg ke ma li ps pn cy ca va cn pp px go ne gi gn) := hD
        refine lv_goto (tgt := 278) hx hb d_Mo_execute_273 (by decide) ?_
        refine lv_iconst (v := 1) hx hb d_Mo_execute_278 (by decide) ?_
        refine cj_v (wc := (W_Mo cI cL b0 b1 b2 b3 b4 b5 b6 b7 ev wr wg ke ma li ps pn cy ca va cn pp px go ne gi gn)) (w1 := (W_Mo cI cL b0 b1 b2 b3 b4 b5 b6 b7 ev wr wg ke ma li ps pn cy ((f_Mo_reckon ca va px gi gn (f_Mo_field px (12 : Int32) (3 : Int32)) (f_Mo_field px (25 : Int32) (7 : Int32)) (f_Mo_operand ke ma (f_Mo_field px (15 : Int32) (5 : Int32))) (f_Mo_field px (20 : Int32) (5 : Int32)) (1 : Int32)).1) ((f_Mo_reckon ca va px gi gn (f_Mo_field px (12 : Int32) (3 : Int32)) (f_Mo_field px (25 : Int32) (7 : Int32)) (f_Mo_operand ke ma (f_Mo_field px (15 : Int32) (5 : Int32))) (f_Mo_field px (20 : Int32) (5 : Int32)) (1 : Int32)).2.1) cn pp px go ne ((f_Mo_reckon ca va px gi gn (f_Mo_field px (12 : Int32) (3 : Int32)) (f_Mo_field px (25 : Int32) (7 : Int32)) (f_Mo_operand ke ma (f_Mo_field px (15 : Int32) (5 : Int32))) (f_Mo_field px (20 : Int32) (5 : Int32)) (1 : Int32)).2.2.1) ((f_Mo_reckon ca va px gi gn (f_Mo_field px (12 : Int32) (3 : Int32)) (f_Mo_field px (25 : Int32) (7 : Int32)) (f_Mo_operand ke ma (f_Mo_field px (15 : Int32) (5 : Int32))) (f_Mo_field px (20 : Int32) (5 : Int32)) (1 : Int32)).2.2.2))) hP hD hS hA [0, 1, 2, 3, 4, 5, 6, 7] rfl [b0, b1, b2, b3, b4, b5, b6, b7] rfl rfl (va_runV (rest := []) ⟨hx, hb, hml, hown, hg⟩ (c_Mo_reckon l D cI cL b0 b1 b2 b3 b4 b5 b6 b7 _ ev wr wg ke ma li ps pn cy ca va cn pp px go ne gi gn (f_Mo_field px (12 : Int32) (3 : Int32)) (f_Mo_field px (25 : Int32) (7 : Int32)) (f_Mo_operand ke ma (f_Mo_field px (15 : Int32) (5 : Int32))) (f_Mo_field px (20 : Int32) (5 : Int32)) (1 : Int32)) ⟨callB_of 5 hg (gw_good m_701) rfl rfl rfl (hg _ m_71) (hg _ m_698) hd_Mo_reckon ⟨Nat.le_of_ble_eq_true rfl, Nat.le_of_ble_eq_true rfl⟩, hg _ m_700, hg _ m_60⟩ (pw_V hK hN hT hA hP hD hS [0, 1, 2, 3, 4, 5, 6, 7] rfl (by decide) (q0 := 0) (ci := 5) rfl rfl) rfl rfl hl.1 rfl (lv_room (Nat.le_of_ble_eq_true rfl)) d_Mo_execute_279 ⟨Nat.le_of_ble_eq_true rfl, Nat.le_of_ble_eq_true rfl⟩) (fun H locs hP hD hS => ?_)
        have hP : va_P D classes (W_Mo cI cL b0 b1 b2 b3 b4 b5 b6 b7 ev wr wg ke ma li ps pn cy ((f_Mo_reckon ca va px gi gn (f_Mo_field px (12 : Int32) (3 : Int32)) (f_Mo_field px (25 : Int32) (7 : Int32)) (f_Mo_operand ke ma (f_Mo_field px (15 : Int32) (5 : Int32))) (f_Mo_field px (20 : Int32) (5 : Int32)) (1 : Int32)).1) ((f_Mo_reckon ca va px gi gn (f_Mo_field px (12 : Int32) (3 : Int32)) (f_Mo_field px (25 : Int32) (7 : Int32)) (f_Mo_operand ke ma (f_Mo_field px (15 : Int32) (5 : Int32))) (f_Mo_field px (20 : Int32) (5 : Int32)) (1 : Int32)).2.1) cn pp px go ne ((f_Mo_reckon ca va px gi gn (f_Mo_field px (12 : Int32) (3 : Int32)) (f_Mo_field px (25 : Int32) (7 : Int32)) (f_Mo_operand ke ma (f_Mo_field px (15 : Int32) (5 : Int32))) (f_Mo_field px (20 : Int32) (5 : Int32)) (1 : Int32)).2.2.1) ((f_Mo_reckon ca va px gi gn (f_Mo_field px (12 : Int32) (3 : Int32)) (f_Mo_field px (25 : Int32) (7 : Int32)) (f_Mo_operand ke ma (f_Mo_field px (15 : Int32) (5 : Int32))) (f_Mo_field px (20 : Int32) (5 : Int32)) (1 : Int32)).2.2.2)) H := hP
        have hD : va_D A (W_Mo cI cL b0 b1 b2 b3 b4 b5 b6 b7 ev wr wg ke ma li ps pn cy ((f_Mo_reckon ca va px gi gn (f_Mo_field px (12 : Int32) (3 : Int32)) (f_Mo_field px (25 : Int32) (7 : Int32)) (f_Mo_operand ke ma (f_Mo_field px (15 : Int32) (5 : Int32))) (f_Mo_field px (20 : Int32) (5 : Int32)) (1 : Int32)).1) ((f_Mo_reckon ca va px gi gn (f_Mo_field px (12 : Int32) (3 : Int32)) (f_Mo_field px (25 : Int32) (7 : Int32)) (f_Mo_operand ke ma (f_Mo_field px (15 : Int32) (5 : Int32))) (f_Mo_field px (20 : Int32) (5 : Int32)) (1 : Int32)).2.1) cn pp px go ne ((f_Mo_reckon ca va px gi gn (f_Mo_field px (12 : Int32) (3 : Int32)) (f_Mo_field px (25 : Int32) (7 : Int32)) (f_Mo_operand ke ma (f_Mo_field px (15 : Int32) (5 : Int32))) (f_Mo_field px (20 : Int32) (5 : Int32)) (1 : Int32)).2.2.1) ((f_Mo_reckon ca va px gi gn (f_Mo_field px (12 : Int32) (3 : Int32)) (f_Mo_field px (25 : Int32) (7 : Int32)) (f_Mo_operand ke ma (f_Mo_field px (15 : Int32) (5 : Int32))) (f_Mo_field px (20 : Int32) (5 : Int32)) (1 : Int32)).2.2.2)) := hD
        generalize e_t2 : f_Mo_reckon ca va px gi gn (f_Mo_field px (12 : Int32) (3 : Int32)) (f_Mo_field px (25 : Int32) (7 : Int32)) (f_Mo_operand ke ma (f_Mo_field px (15 : Int32) (5 : Int32))) (f_Mo_field px (20 : Int32) (5 : Int32)) (1 : Int32) = t2 at hP hD ⊢
        refine lv_goto (tgt := 309) hx hb d_Mo_execute_282 (by decide) ?_
        rw [f_Mo_execute_e1 wr wg ke ma li ca va cn pp px go ne gi gn t2 e_t2 h48_0 h48_1 h258]
        exact W.vret hx hb hr (fun t ht hW => ⟨⟨(), rfl, trivial, by show va_P D classes _ t.heap; rw [ht]; exact hP⟩, hS.F ht⟩) hS.2.2 d_Mo_execute_309 hlocks
      · refine lv_iload_n hx hb d_Mo_execute_261 rfl (lv_at hl 3 rfl) ?_
        refine lv_iconst (v := 5) hx hb d_Mo_execute_262 (by decide) ?_
        refine lv_icmp_ne (tgt := 276) hx hb d_Mo_execute_263 (by decide) (fun h263 => ?_) (fun h263 => ?_)
        · refine lv_iload hx hb d_Mo_execute_276 (lv_at hl 0 rfl) ?_
          refine lv_iconst (v := 1) hx hb d_Mo_execute_278 (by decide) ?_
          refine cj_v (wc := (W_Mo cI cL b0 b1 b2 b3 b4 b5 b6 b7 ev wr wg ke ma li ps pn cy ca va cn pp px go ne gi gn)) (w1 := (W_Mo cI cL b0 b1 b2 b3 b4 b5 b6 b7 ev wr wg ke ma li ps pn cy ((f_Mo_reckon ca va px gi gn (f_Mo_field px (12 : Int32) (3 : Int32)) (f_Mo_field px (25 : Int32) (7 : Int32)) (f_Mo_operand ke ma (f_Mo_field px (15 : Int32) (5 : Int32))) (px >>> ((20 : Int32) &&& 31)) (1 : Int32)).1) ((f_Mo_reckon ca va px gi gn (f_Mo_field px (12 : Int32) (3 : Int32)) (f_Mo_field px (25 : Int32) (7 : Int32)) (f_Mo_operand ke ma (f_Mo_field px (15 : Int32) (5 : Int32))) (px >>> ((20 : Int32) &&& 31)) (1 : Int32)).2.1) cn pp px go ne ((f_Mo_reckon ca va px gi gn (f_Mo_field px (12 : Int32) (3 : Int32)) (f_Mo_field px (25 : Int32) (7 : Int32)) (f_Mo_operand ke ma (f_Mo_field px (15 : Int32) (5 : Int32))) (px >>> ((20 : Int32) &&& 31)) (1 : Int32)).2.2.1) ((f_Mo_reckon ca va px gi gn (f_Mo_field px (12 : Int32) (3 : Int32)) (f_Mo_field px (25 : Int32) (7 : Int32)) (f_Mo_operand ke ma (f_Mo_field px (15 : Int32) (5 : Int32))) (px >>> ((20 : Int32) &&& 31)) (1 : Int32)).2.2.2))) hP hD hS hA [0, 1, 2, 3, 4, 5, 6, 7] rfl [b0, b1, b2, b3, b4, b5, b6, b7] rfl rfl (va_runV (rest := []) ⟨hx, hb, hml, hown, hg⟩ (c_Mo_reckon l D cI cL b0 b1 b2 b3 b4 b5 b6 b7 _ ev wr wg ke ma li ps pn cy ca va cn pp px go ne gi gn (f_Mo_field px (12 : Int32) (3 : Int32)) (f_Mo_field px (25 : Int32) (7 : Int32)) (f_Mo_operand ke ma (f_Mo_field px (15 : Int32) (5 : Int32))) (px >>> ((20 : Int32) &&& 31)) (1 : Int32)) ⟨callB_of 5 hg (gw_good m_701) rfl rfl rfl (hg _ m_71) (hg _ m_698) hd_Mo_reckon ⟨Nat.le_of_ble_eq_true rfl, Nat.le_of_ble_eq_true rfl⟩, hg _ m_700, hg _ m_60⟩ (pw_V hK hN hT hA hP hD hS [0, 1, 2, 3, 4, 5, 6, 7] rfl (by decide) (q0 := 0) (ci := 5) rfl rfl) rfl rfl hl.1 rfl (lv_room (Nat.le_of_ble_eq_true rfl)) d_Mo_execute_279 ⟨Nat.le_of_ble_eq_true rfl, Nat.le_of_ble_eq_true rfl⟩) (fun H locs hP hD hS => ?_)
          have hP : va_P D classes (W_Mo cI cL b0 b1 b2 b3 b4 b5 b6 b7 ev wr wg ke ma li ps pn cy ((f_Mo_reckon ca va px gi gn (f_Mo_field px (12 : Int32) (3 : Int32)) (f_Mo_field px (25 : Int32) (7 : Int32)) (f_Mo_operand ke ma (f_Mo_field px (15 : Int32) (5 : Int32))) (px >>> ((20 : Int32) &&& 31)) (1 : Int32)).1) ((f_Mo_reckon ca va px gi gn (f_Mo_field px (12 : Int32) (3 : Int32)) (f_Mo_field px (25 : Int32) (7 : Int32)) (f_Mo_operand ke ma (f_Mo_field px (15 : Int32) (5 : Int32))) (px >>> ((20 : Int32) &&& 31)) (1 : Int32)).2.1) cn pp px go ne ((f_Mo_reckon ca va px gi gn (f_Mo_field px (12 : Int32) (3 : Int32)) (f_Mo_field px (25 : Int32) (7 : Int32)) (f_Mo_operand ke ma (f_Mo_field px (15 : Int32) (5 : Int32))) (px >>> ((20 : Int32) &&& 31)) (1 : Int32)).2.2.1) ((f_Mo_reckon ca va px gi gn (f_Mo_field px (12 : Int32) (3 : Int32)) (f_Mo_field px (25 : Int32) (7 : Int32)) (f_Mo_operand ke ma (f_Mo_field px (15 : Int32) (5 : Int32))) (px >>> ((20 : Int32) &&& 31)) (1 : Int32)).2.2.2)) H := hP
          have hD : va_D A (W_Mo cI cL b0 b1 b2 b3 b4 b5 b6 b7 ev wr wg ke ma li ps pn cy ((f_Mo_reckon ca va px gi gn (f_Mo_field px (12 : Int32) (3 : Int32)) (f_Mo_field px (25 : Int32) (7 : Int32)) (f_Mo_operand ke ma (f_Mo_field px (15 : Int32) (5 : Int32))) (px >>> ((20 : Int32) &&& 31)) (1 : Int32)).1) ((f_Mo_reckon ca va px gi gn (f_Mo_field px (12 : Int32) (3 : Int32)) (f_Mo_field px (25 : Int32) (7 : Int32)) (f_Mo_operand ke ma (f_Mo_field px (15 : Int32) (5 : Int32))) (px >>> ((20 : Int32) &&& 31)) (1 : Int32)).2.1) cn pp px go ne ((f_Mo_reckon ca va px gi gn (f_Mo_field px (12 : Int32) (3 : Int32)) (f_Mo_field px (25 : Int32) (7 : Int32)) (f_Mo_operand ke ma (f_Mo_field px (15 : Int32) (5 : Int32))) (px >>> ((20 : Int32) &&& 31)) (1 : Int32)).2.2.1) ((f_Mo_reckon ca va px gi gn (f_Mo_field px (12 : Int32) (3 : Int32)) (f_Mo_field px (25 : Int32) (7 : Int32)) (f_Mo_operand ke ma (f_Mo_field px (15 : Int32) (5 : Int32))) (px >>> ((20 : Int32) &&& 31)) (1 : Int32)).2.2.2)) := hD
          generalize e_t3 : f_Mo_reckon ca va px gi gn (f_Mo_field px (12 : Int32) (3 : Int32)) (f_Mo_field px (25 : Int32) (7 : Int32)) (f_Mo_operand ke ma (f_Mo_field px (15 : Int32) (5 : Int32))) (px >>> ((20 : Int32) &&& 31)) (1 : Int32) = t3 at hP hD ⊢
          refine lv_goto (tgt := 309) hx hb d_Mo_execute_282 (by decide) ?_
          rw [f_Mo_execute_e2 wr wg ke ma li ca va cn pp px go ne gi gn t3 e_t3 h48_0 h48_1 h258 h263]
          exact W.vret hx hb hr (fun t ht hW => ⟨⟨(), rfl, trivial, by show va_P D classes _ t.heap; rw [ht]; exact hP⟩, hS.F ht⟩) hS.2.2 d_Mo_execute_309 hlocks
        · refine lv_aload_n hx hb d_Mo_execute_266 rfl (lv_at hl 4 rfl) ?_
          refine lv_bipush (v := 20) hx hb d_Mo_execute_267 (by decide) ?_
          refine lv_iconst (v := 5) hx hb d_Mo_execute_269 (by decide) ?_
          refine cj_i (wc := (W_Mo cI cL b0 b1 b2 b3 b4 b5 b6 b7 ev wr wg ke ma li ps pn cy ca va cn pp px go ne gi gn)) (w1 := (W_Mo cI cL b0 b1 b2 b3 b4 b5 b6 b7 ev wr wg ke ma li ps pn cy ca va cn pp px go ne gi gn)) hP hD hS hA [0, 1, 2, 3, 4, 5, 6, 7] rfl [b0, b1, b2, b3, b4, b5, b6, b7] rfl rfl (va_runV (rest := [.int _, .int _, .int _, .ref _]) ⟨hx, hb, hml, hown, hg⟩ (c_Mo_field l D cI cL b0 b1 b2 b3 b4 b5 b6 b7 _ ev wr wg ke ma li ps pn cy ca va cn pp px go ne gi gn (20 : Int32) (5 : Int32)) ⟨callB_of 2 hg (gw_good m_637) rfl rfl rfl (hg _ m_71) (hg _ m_634) hd_Mo_field ⟨Nat.le_of_ble_eq_true rfl, Nat.le_of_ble_eq_true rfl⟩, hg _ m_636, hg _ m_45⟩ (pw_V hK hN hT hA hP hD hS [0, 1, 2, 3, 4, 5, 6, 7] rfl (by decide) (q0 := 0) (ci := 5) rfl rfl) rfl rfl hl.1 rfl (lv_room (Nat.le_of_ble_eq_true rfl)) d_Mo_execute_270 ⟨Nat.le_of_ble_eq_true rfl, Nat.le_of_ble_eq_true rfl⟩) (fun H locs hP hD hS => ?_)
          have hP : va_P D classes (W_Mo cI cL b0 b1 b2 b3 b4 b5 b6 b7 ev wr wg ke ma li ps pn cy ca va cn pp px go ne gi gn) H := hP
          have hD : va_D A (W_Mo cI cL b0 b1 b2 b3 b4 b5 b6 b7 ev wr wg ke ma li ps pn cy ca va cn pp px go ne gi gn) := hD
          refine lv_goto (tgt := 278) hx hb d_Mo_execute_273 (by decide) ?_
          refine lv_iconst (v := 1) hx hb d_Mo_execute_278 (by decide) ?_
          refine cj_v (wc := (W_Mo cI cL b0 b1 b2 b3 b4 b5 b6 b7 ev wr wg ke ma li ps pn cy ca va cn pp px go ne gi gn)) (w1 := (W_Mo cI cL b0 b1 b2 b3 b4 b5 b6 b7 ev wr wg ke ma li ps pn cy ((f_Mo_reckon ca va px gi gn (f_Mo_field px (12 : Int32) (3 : Int32)) (f_Mo_field px (25 : Int32) (7 : Int32)) (f_Mo_operand ke ma (f_Mo_field px (15 : Int32) (5 : Int32))) (f_Mo_field px (20 : Int32) (5 : Int32)) (1 : Int32)).1) ((f_Mo_reckon ca va px gi gn (f_Mo_field px (12 : Int32) (3 : Int32)) (f_Mo_field px (25 : Int32) (7 : Int32)) (f_Mo_operand ke ma (f_Mo_field px (15 : Int32) (5 : Int32))) (f_Mo_field px (20 : Int32) (5 : Int32)) (1 : Int32)).2.1) cn pp px go ne ((f_Mo_reckon ca va px gi gn (f_Mo_field px (12 : Int32) (3 : Int32)) (f_Mo_field px (25 : Int32) (7 : Int32)) (f_Mo_operand ke ma (f_Mo_field px (15 : Int32) (5 : Int32))) (f_Mo_field px (20 : Int32) (5 : Int32)) (1 : Int32)).2.2.1) ((f_Mo_reckon ca va px gi gn (f_Mo_field px (12 : Int32) (3 : Int32)) (f_Mo_field px (25 : Int32) (7 : Int32)) (f_Mo_operand ke ma (f_Mo_field px (15 : Int32) (5 : Int32))) (f_Mo_field px (20 : Int32) (5 : Int32)) (1 : Int32)).2.2.2))) hP hD hS hA [0, 1, 2, 3, 4, 5, 6, 7] rfl [b0, b1, b2, b3, b4, b5, b6, b7] rfl rfl (va_runV (rest := []) ⟨hx, hb, hml, hown, hg⟩ (c_Mo_reckon l D cI cL b0 b1 b2 b3 b4 b5 b6 b7 _ ev wr wg ke ma li ps pn cy ca va cn pp px go ne gi gn (f_Mo_field px (12 : Int32) (3 : Int32)) (f_Mo_field px (25 : Int32) (7 : Int32)) (f_Mo_operand ke ma (f_Mo_field px (15 : Int32) (5 : Int32))) (f_Mo_field px (20 : Int32) (5 : Int32)) (1 : Int32)) ⟨callB_of 5 hg (gw_good m_701) rfl rfl rfl (hg _ m_71) (hg _ m_698) hd_Mo_reckon ⟨Nat.le_of_ble_eq_true rfl, Nat.le_of_ble_eq_true rfl⟩, hg _ m_700, hg _ m_60⟩ (pw_V hK hN hT hA hP hD hS [0, 1, 2, 3, 4, 5, 6, 7] rfl (by decide) (q0 := 0) (ci := 5) rfl rfl) rfl rfl hl.1 rfl (lv_room (Nat.le_of_ble_eq_true rfl)) d_Mo_execute_279 ⟨Nat.le_of_ble_eq_true rfl, Nat.le_of_ble_eq_true rfl⟩) (fun H locs hP hD hS => ?_)
          have hP : va_P D classes (W_Mo cI cL b0 b1 b2 b3 b4 b5 b6 b7 ev wr wg ke ma li ps pn cy ((f_Mo_reckon ca va px gi gn (f_Mo_field px (12 : Int32) (3 : Int32)) (f_Mo_field px (25 : Int32) (7 : Int32)) (f_Mo_operand ke ma (f_Mo_field px (15 : Int32) (5 : Int32))) (f_Mo_field px (20 : Int32) (5 : Int32)) (1 : Int32)).1) ((f_Mo_reckon ca va px gi gn (f_Mo_field px (12 : Int32) (3 : Int32)) (f_Mo_field px (25 : Int32) (7 : Int32)) (f_Mo_operand ke ma (f_Mo_field px (15 : Int32) (5 : Int32))) (f_Mo_field px (20 : Int32) (5 : Int32)) (1 : Int32)).2.1) cn pp px go ne ((f_Mo_reckon ca va px gi gn (f_Mo_field px (12 : Int32) (3 : Int32)) (f_Mo_field px (25 : Int32) (7 : Int32)) (f_Mo_operand ke ma (f_Mo_field px (15 : Int32) (5 : Int32))) (f_Mo_field px (20 : Int32) (5 : Int32)) (1 : Int32)).2.2.1) ((f_Mo_reckon ca va px gi gn (f_Mo_field px (12 : Int32) (3 : Int32)) (f_Mo_field px (25 : Int32) (7 : Int32)) (f_Mo_operand ke ma (f_Mo_field px (15 : Int32) (5 : Int32))) (f_Mo_field px (20 : Int32) (5 : Int32)) (1 : Int32)).2.2.2)) H := hP
          have hD : va_D A (W_Mo cI cL b0 b1 b2 b3 b4 b5 b6 b7 ev wr wg ke ma li ps pn cy ((f_Mo_reckon ca va px gi gn (f_Mo_field px (12 : Int32) (3 : Int32)) (f_Mo_field px (25 : Int32) (7 : Int32)) (f_Mo_operand ke ma (f_Mo_field px (15 : Int32) (5 : Int32))) (f_Mo_field px (20 : Int32) (5 : Int32)) (1 : Int32)).1) ((f_Mo_reckon ca va px gi gn (f_Mo_field px (12 : Int32) (3 : Int32)) (f_Mo_field px (25 : Int32) (7 : Int32)) (f_Mo_operand ke ma (f_Mo_field px (15 : Int32) (5 : Int32))) (f_Mo_field px (20 : Int32) (5 : Int32)) (1 : Int32)).2.1) cn pp px go ne ((f_Mo_reckon ca va px gi gn (f_Mo_field px (12 : Int32) (3 : Int32)) (f_Mo_field px (25 : Int32) (7 : Int32)) (f_Mo_operand ke ma (f_Mo_field px (15 : Int32) (5 : Int32))) (f_Mo_field px (20 : Int32) (5 : Int32)) (1 : Int32)).2.2.1) ((f_Mo_reckon ca va px gi gn (f_Mo_field px (12 : Int32) (3 : Int32)) (f_Mo_field px (25 : Int32) (7 : Int32)) (f_Mo_operand ke ma (f_Mo_field px (15 : Int32) (5 : Int32))) (f_Mo_field px (20 : Int32) (5 : Int32)) (1 : Int32)).2.2.2)) := hD
          generalize e_t4 : f_Mo_reckon ca va px gi gn (f_Mo_field px (12 : Int32) (3 : Int32)) (f_Mo_field px (25 : Int32) (7 : Int32)) (f_Mo_operand ke ma (f_Mo_field px (15 : Int32) (5 : Int32))) (f_Mo_field px (20 : Int32) (5 : Int32)) (1 : Int32) = t4 at hP hD ⊢
          refine lv_goto (tgt := 309) hx hb d_Mo_execute_282 (by decide) ?_
          rw [f_Mo_execute_e3 wr wg ke ma li ca va cn pp px go ne gi gn t4 e_t4 h48_0 h48_1 h258 h263]
          exact W.vret hx hb hr (fun t ht hW => ⟨⟨(), rfl, trivial, by show va_P D classes _ t.heap; rw [ht]; exact hP⟩, hS.F ht⟩) hS.2.2 d_Mo_execute_309 hlocks
    · by_cases h48_2 : (f_Mo_field px (0 : Int32) (7 : Int32)) = (23 : Int32)
      · refine lv_lookup (off := 99) (tgt := 147) hx hb d_Mo_execute_48 (by decide) (by first | (rw [h48_2]; done) | (rw [h48_2]; rfl)) (by decide) ?_
        refine lv_aload_n hx hb d_Mo_execute_147 rfl (lv_at hl 4 rfl) ?_
        refine lv_aload_n hx hb d_Mo_execute_148 rfl (lv_at hl 4 rfl) ?_
        refine va_get (ci := 5) (C := R_Mo) (T := F_Mo) (N := 18) hx hb hg in_Mo hown hK hP 0 rfl rfl 12 (by decide) (hg _ m_515) (fun _ h => h) rfl d_Mo_execute_149 ?_
        refine lv_aload_n hx hb d_Mo_execute_152 rfl (lv_at hl 4 rfl) ?_
        refine va_get (ci := 5) (C := R_Mo) (T := F_Mo) (N := 18) hx hb hg in_Mo hown hK hP 0 rfl rfl 13 (by decide) (hg _ m_516) (fun _ h => h) rfl d_Mo_execute_153 ?_
        refine lv_sipush (v := -4096) hx hb d_Mo_execute_156 (by decide) ?_
        refine lv_iand hx hb d_Mo_execute_159 ?_
        refine lv_iadd hx hb d_Mo_execute_160 ?_
        refine cj_v (wc := (W_Mo cI cL b0 b1 b2 b3 b4 b5 b6 b7 ev wr wg ke ma li ps pn cy ca va cn pp px go ne gi gn)) (w1 := (W_Mo cI cL b0 b1 b2 b3 b4 b5 b6 b7 ev wr wg ke ma li ps pn cy ca va cn pp px go ne ((f_Mo_give gi gn (pp + (px &&& (-4096 : Int32)))).1) ((f_Mo_give gi gn (pp + (px &&& (-4096 : Int32)))).2))) hP hD hS hA [0, 1, 2, 3, 4, 5, 6, 7] rfl [b0, b1, b2, b3, b4, b5, b6, b7] rfl rfl (va_runV (rest := []) ⟨hx, hb, hml, hown, hg⟩ (c_Mo_give l D cI cL b0 b1 b2 b3 b4 b5 b6 b7 _ ev wr wg ke ma li ps pn cy ca va cn pp px go ne gi gn (pp + (px &&& (-4096 : Int32)))) ⟨callB_of 1 hg (gw_good m_645) rfl rfl rfl (hg _ m_71) (hg _ m_642) hd_Mo_give ⟨Nat.le_of_ble_eq_true rfl, Nat.le_of_ble_eq_true rfl⟩, hg _ m_644, hg _ m_47⟩ (pw_V hK hN hT hA hP hD hS [0, 1, 2, 3, 4, 5, 6, 7] rfl (by decide) (q0 := 0) (ci := 5) rfl rfl) rfl rfl hl.1 rfl (lv_room (Nat.le_of_ble_eq_true rfl)) d_Mo_execute_161 ⟨Nat.le_of_ble_eq_true rfl, Nat.le_of_ble_eq_true rfl⟩) (fun H locs hP hD hS => ?_)
        have hP : va_P D classes (W_Mo cI cL b0 b1 b2 b3 b4 b5 b6 b7 ev wr wg ke ma li ps pn cy ca va cn pp px go ne ((f_Mo_give gi gn (pp + (px &&& (-4096 : Int32)))).1) ((f_Mo_give gi gn (pp + (px &&& (-4096 : Int32)))).2)) H := hP
        have hD : va_D A (W_Mo cI cL b0 b1 b2 b3 b4 b5 b6 b7 ev wr wg ke ma li ps pn cy ca va cn pp px go ne ((f_Mo_give gi gn (pp + (px &&& (-4096 : Int32)))).1) ((f_Mo_give gi gn (pp + (px &&& (-4096 : Int32)))).2)) := hD
        generalize e_t5 : f_Mo_give gi gn (pp + (px &&& (-4096 : Int32))) = t5 at hP hD ⊢
        refine lv_goto (tgt := 309) hx hb d_Mo_execute_164 (by decide) ?_
        rw [f_Mo_execute_e4 wr wg ke ma li ca va cn pp px go ne gi gn t5 e_t5 h48_0 h48_1 h48_2]
        exact W.vret hx hb hr (fun t ht hW => ⟨⟨(), rfl, trivial, by show va_P D classes _ t.heap; rw [ht]; exact hP⟩, hS.F ht⟩) hS.2.2 d_Mo_execute_309 hlocks
      · by_cases h48_3 : (f_Mo_field px (0 : Int32) (7 : Int32)) = (35 : Int32)
        · refine lv_lookup (off := 182) (tgt := 230) hx hb d_Mo_execute_48 (by decide) (by first | (rw [h48_3]; done) | (rw [h48_3]; rfl)) (by decide) ?_
          refine lv_aload_n hx hb d_Mo_execute_230 rfl (lv_at hl 4 rfl) ?_
          refine lv_iload_n hx hb d_Mo_execute_231 rfl (lv_at hl 3 rfl) ?_
          refine lv_iload_n hx hb d_Mo_execute_232 rfl (lv_at hl 2 rfl) ?_
          refine lv_aload_n hx hb d_Mo_execute_233 rfl (lv_at hl 4 rfl) ?_
          refine cj_i (wc := (W_Mo cI cL b0 b1 b2 b3 b4 b5 b6 b7 ev wr wg ke ma li ps pn cy ca va cn pp px go ne gi gn)) (w1 := (W_Mo cI cL b0 b1 b2 b3 b4 b5 b6 b7 ev wr wg ke ma li ps pn cy ca va cn pp px go ne gi gn)) hP hD hS hA [0, 1, 2, 3, 4, 5, 6, 7] rfl [b0, b1, b2, b3, b4, b5, b6, b7] rfl rfl (va_runV (rest := [.int _, .int _, .ref _]) ⟨hx, hb, hml, hown, hg⟩ (c_Mo_numberJ l D cI cL b0 b1 b2 b3 b4 b5 b6 b7 _ ev wr wg ke ma li ps pn cy ca va cn pp px go ne gi gn) ⟨callB_of 0 hg (gw_good m_684) rfl rfl rfl (hg _ m_71) (hg _ m_681) hd_Mo_numberJ ⟨Nat.le_of_ble_eq_true rfl, Nat.le_of_ble_eq_true rfl⟩, hg _ m_683, hg _ m_56⟩ (pw_V hK hN hT hA hP hD hS [0, 1, 2, 3, 4, 5, 6, 7] rfl (by decide) (q0 := 0) (ci := 5) rfl rfl) rfl rfl hl.1 rfl (lv_room (Nat.le_of_ble_eq_true rfl)) d_Mo_execute_234 ⟨Nat.le_of_ble_eq_true rfl, Nat.le_of_ble_eq_true rfl⟩) (fun H locs hP hD hS => ?_)
          have hP : va_P D classes (W_Mo cI cL b0 b1 b2 b3 b4 b5 b6 b7 ev wr wg ke ma li ps pn cy ca va cn pp px go ne gi gn) H := hP
          have hD : va_D A (W_Mo cI cL b0 b1 b2 b3 b4 b5 b6 b7 ev wr wg ke ma li ps pn cy ca va cn pp px go ne gi gn) := hD
          refine lv_iadd hx hb d_Mo_execute_237 ?_
          refine lv_iload_n hx hb d_Mo_execute_238 rfl (lv_at hl 1 rfl) ?_
          refine cj_v (wc := (W_Mo cI cL b0 b1 b2 b3 b4 b5 b6 b7 ev wr wg ke ma li ps pn cy ca va cn pp px go ne gi gn)) (w1 := (W_Mo cI cL b0 b1 b2 b3 b4 b5 b6 b7 ev ((f_Mo_store wr wg li ca va cn px go (f_Mo_field px (12 : Int32) (3 : Int32)) ((f_Mo_operand ke ma (f_Mo_field px (15 : Int32) (5 : Int32))) + (f_Mo_numberJ px)) (f_Mo_operand ke ma (f_Mo_field px (20 : Int32) (5 : Int32)))).1) ((f_Mo_store wr wg li ca va cn px go (f_Mo_field px (12 : Int32) (3 : Int32)) ((f_Mo_operand ke ma (f_Mo_field px (15 : Int32) (5 : Int32))) + (f_Mo_numberJ px)) (f_Mo_operand ke ma (f_Mo_field px (20 : Int32) (5 : Int32)))).2.1) ke ma ((f_Mo_store wr wg li ca va cn px go (f_Mo_field px (12 : Int32) (3 : Int32)) ((f_Mo_operand ke ma (f_Mo_field px (15 : Int32) (5 : Int32))) + (f_Mo_numberJ px)) (f_Mo_operand ke ma (f_Mo_field px (20 : Int32) (5 : Int32)))).2.2.1) ps pn cy ((f_Mo_store wr wg li ca va cn px go (f_Mo_field px (12 : Int32) (3 : Int32)) ((f_Mo_operand ke ma (f_Mo_field px (15 : Int32) (5 : Int32))) + (f_Mo_numberJ px)) (f_Mo_operand ke ma (f_Mo_field px (20 : Int32) (5 : Int32)))).2.2.2.1) ((f_Mo_store wr wg li ca va cn px go (f_Mo_field px (12 : Int32) (3 : Int32)) ((f_Mo_operand ke ma (f_Mo_field px (15 : Int32) (5 : Int32))) + (f_Mo_numberJ px)) (f_Mo_operand ke ma (f_Mo_field px (20 : Int32) (5 : Int32)))).2.2.2.2.1) ((f_Mo_store wr wg li ca va cn px go (f_Mo_field px (12 : Int32) (3 : Int32)) ((f_Mo_operand ke ma (f_Mo_field px (15 : Int32) (5 : Int32))) + (f_Mo_numberJ px)) (f_Mo_operand ke ma (f_Mo_field px (20 : Int32) (5 : Int32)))).2.2.2.2.2.1) pp px ((f_Mo_store wr wg li ca va cn px go (f_Mo_field px (12 : Int32) (3 : Int32)) ((f_Mo_operand ke ma (f_Mo_field px (15 : Int32) (5 : Int32))) + (f_Mo_numberJ px)) (f_Mo_operand ke ma (f_Mo_field px (20 : Int32) (5 : Int32)))).2.2.2.2.2.2) ne gi gn)) hP hD hS hA [0, 1, 2, 3, 4, 5, 6, 7] rfl [b0, b1, b2, b3, b4, b5, b6, b7] rfl rfl (va_runV (rest := []) ⟨hx, hb, hml, hown, hg⟩ (c_Mo_store l D cI cL b0 b1 b2 b3 b4 b5 b6 b7 _ ev wr wg ke ma li ps pn cy ca va cn pp px go ne gi gn (f_Mo_field px (12 : Int32) (3 : Int32)) ((f_Mo_operand ke ma (f_Mo_field px (15 : Int32) (5 : Int32))) + (f_Mo_numberJ px)) (f_Mo_operand ke ma (f_Mo_field px (20 : Int32) (5 : Int32)))) ⟨callB_of 3 hg (gw_good m_688) rfl rfl rfl (hg _ m_71) (hg _ m_685) hd_Mo_store ⟨Nat.le_of_ble_eq_true rfl, Nat.le_of_ble_eq_true rfl⟩, hg _ m_687, hg _ m_57⟩ (pw_V hK hN hT hA hP hD hS [0, 1, 2, 3, 4, 5, 6, 7] rfl (by decide) (q0 := 0) (ci := 5) rfl rfl) rfl rfl hl.1 rfl (lv_room (Nat.le_of_ble_eq_true rfl)) d_Mo_execute_239 ⟨Nat.le_of_ble_eq_true rfl, Nat.le_of_ble_eq_true rfl⟩) (fun H locs hP hD hS => ?_)
          have hP : va_P D classes (W_Mo cI cL b0 b1 b2 b3 b4 b5 b6 b7 ev ((f_Mo_store wr wg li ca va cn px go (f_Mo_field px (12 : Int32) (3 : Int32)) ((f_Mo_operand ke ma (f_Mo_field px (15 : Int32) (5 : Int32))) + (f_Mo_numberJ px)) (f_Mo_operand ke ma (f_Mo_field px (20 : Int32) (5 : Int32)))).1) ((f_Mo_store wr wg li ca va cn px go (f_Mo_field px (12 : Int32) (3 : Int32)) ((f_Mo_operand ke ma (f_Mo_field px (15 : Int32) (5 : Int32))) + (f_Mo_numberJ px)) (f_Mo_operand ke ma (f_Mo_field px (20 : Int32) (5 : Int32)))).2.1) ke ma ((f_Mo_store wr wg li ca va cn px go (f_Mo_field px (12 : Int32) (3 : Int32)) ((f_Mo_operand ke ma (f_Mo_field px (15 : Int32) (5 : Int32))) + (f_Mo_numberJ px)) (f_Mo_operand ke ma (f_Mo_field px (20 : Int32) (5 : Int32)))).2.2.1) ps pn cy ((f_Mo_store wr wg li ca va cn px go (f_Mo_field px (12 : Int32) (3 : Int32)) ((f_Mo_operand ke ma (f_Mo_field px (15 : Int32) (5 : Int32))) + (f_Mo_numberJ px)) (f_Mo_operand ke ma (f_Mo_field px (20 : Int32) (5 : Int32)))).2.2.2.1) ((f_Mo_store wr wg li ca va cn px go (f_Mo_field px (12 : Int32) (3 : Int32)) ((f_Mo_operand ke ma (f_Mo_field px (15 : Int32) (5 : Int32))) + (f_Mo_numberJ px)) (f_Mo_operand ke ma (f_Mo_field px (20 : Int32) (5 : Int32)))).2.2.2.2.1) ((f_Mo_store wr wg li ca va cn px go (f_Mo_field px (12 : Int32) (3 : Int32)) ((f_Mo_operand ke ma (f_Mo_field px (15 : Int32) (5 : Int32))) + (f_Mo_numberJ px)) (f_Mo_operand ke ma (f_Mo_field px (20 : Int32) (5 : Int32)))).2.2.2.2.2.1) pp px ((f_Mo_store wr wg li ca va cn px go (f_Mo_field px (12 : Int32) (3 : Int32)) ((f_Mo_operand ke ma (f_Mo_field px (15 : Int32) (5 : Int32))) + (f_Mo_numberJ px)) (f_Mo_operand ke ma (f_Mo_field px (20 : Int32) (5 : Int32)))).2.2.2.2.2.2) ne gi gn) H := hP
          have hD : va_D A (W_Mo cI cL b0 b1 b2 b3 b4 b5 b6 b7 ev ((f_Mo_store wr wg li ca va cn px go (f_Mo_field px (12 : Int32) (3 : Int32)) ((f_Mo_operand ke ma (f_Mo_field px (15 : Int32) (5 : Int32))) + (f_Mo_numberJ px)) (f_Mo_operand ke ma (f_Mo_field px (20 : Int32) (5 : Int32)))).1) ((f_Mo_store wr wg li ca va cn px go (f_Mo_field px (12 : Int32) (3 : Int32)) ((f_Mo_operand ke ma (f_Mo_field px (15 : Int32) (5 : Int32))) + (f_Mo_numberJ px)) (f_Mo_operand ke ma (f_Mo_field px (20 : Int32) (5 : Int32)))).2.1) ke ma ((f_Mo_store wr wg li ca va cn px go (f_Mo_field px (12 : Int32) (3 : Int32)) ((f_Mo_operand ke ma (f_Mo_field px (15 : Int32) (5 : Int32))) + (f_Mo_numberJ px)) (f_Mo_operand ke ma (f_Mo_field px (20 : Int32) (5 : Int32)))).2.2.1) ps pn cy ((f_Mo_store wr wg li ca va cn px go (f_Mo_field px (12 : Int32) (3 : Int32)) ((f_Mo_operand ke ma (f_Mo_field px (15 : Int32) (5 : Int32))) + (f_Mo_numberJ px)) (f_Mo_operand ke ma (f_Mo_field px (20 : Int32) (5 : Int32)))).2.2.2.1) ((f_Mo_store wr wg li ca va cn px go (f_Mo_field px (12 : Int32) (3 : Int32)) ((f_Mo_operand ke ma (f_Mo_field px (15 : Int32) (5 : Int32))) + (f_Mo_numberJ px)) (f_Mo_operand ke ma (f_Mo_field px (20 : Int32) (5 : Int32)))).2.2.2.2.1) ((f_Mo_store wr wg li ca va cn px go (f_Mo_field px (12 : Int32) (3 : Int32)) ((f_Mo_operand ke ma (f_Mo_field px (15 : Int32) (5 : Int32))) + (f_Mo_numberJ px)) (f_Mo_operand ke ma (f_Mo_field px (20 : Int32) (5 : Int32)))).2.2.2.2.2.1) pp px ((f_Mo_store wr wg li ca va cn px go (f_Mo_field px (12 : Int32) (3 : Int32)) ((f_Mo_operand ke ma (f_Mo_field px (15 : Int32) (5 : Int32))) + (f_Mo_numberJ px)) (f_Mo_operand ke ma (f_Mo_field px (20 : Int32) (5 : Int32)))).2.2.2.2.2.2) ne gi gn) := hD
          generalize e_t6 : f_Mo_store wr wg li ca va cn px go (f_Mo_field px (12 : Int32) (3 : Int32)) ((f_Mo_operand ke ma (f_Mo_field px (15 : Int32) (5 : Int32))) + (f_Mo_numberJ px)) (f_Mo_operand ke ma (f_Mo_field px (20 : Int32) (5 : Int32))) = t6 at hP hD ⊢
          refine lv_goto (tgt := 309) hx hb d_Mo_execute_242 (by decide) ?_
          rw [f_Mo_execute_e5 wr wg ke ma li ca va cn pp px go ne gi gn t6 e_t6 h48_0 h48_1 h48_2 h48_3]
          exact W.vret hx hb hr (fun t ht hW => ⟨⟨(), rfl, trivial, by show va_P D classes _ t.heap; rw [ht]; exact hP⟩, hS.F ht⟩) hS.2.2 d_Mo_execute_309 hlocks
        · by_cases h48_4 : (f_Mo_field px (0 : Int32) (7 : Int32)) = (51 : Int32)
          · refine lv_lookup (off := 237) (tgt := 285) hx hb d_Mo_execute_48 (by decide) (by first | (rw [h48_4]; done) | (rw [h48_4]; rfl)) (by decide) ?_
            refine lv_aload_n hx hb d_Mo_execute_285 rfl (lv_at hl 4 rfl) ?_
            refine lv_iload_n hx hb d_Mo_execute_286 rfl (lv_at hl 3 rfl) ?_
            refine lv_aload_n hx hb d_Mo_execute_287 rfl (lv_at hl 4 rfl) ?_
            refine lv_bipush (v := 25) hx hb d_Mo_execute_288 (by decide) ?_
            refine lv_bipush (v := 7) hx hb d_Mo_execute_290 (by decide) ?_
            refine cj_i (wc := (W_Mo cI cL b0 b1 b2 b3 b4 b5 b6 b7 ev wr wg ke ma li ps pn cy ca va cn pp px go ne gi gn)) (w1 := (W_Mo cI cL b0 b1 b2 b3 b4 b5 b6 b7 ev wr wg ke ma li ps pn cy ca va cn pp px go ne gi gn)) hP hD hS hA [0, 1, 2, 3, 4, 5, 6, 7] rfl [b0, b1, b2, b3, b4, b5, b6, b7] rfl rfl (va_runV (rest := [.int _, .ref _]) ⟨hx, hb, hml, hown, hg⟩ (c_Mo_field l D cI cL b0 b1 b2 b3 b4 b5 b6 b7 _ ev wr wg ke ma li ps pn cy ca va cn pp px go ne gi gn (25 : Int32) (7 : Int32)) ⟨callB_of 2 hg (gw_good m_637) rfl rfl rfl (hg _ m_71) (hg _ m_634) hd_Mo_field ⟨Nat.le_of_ble_eq_true rfl, Nat.le_of_ble_eq_true rfl⟩, hg _ m_636, hg _ m_45⟩ (pw_V hK hN hT hA hP hD hS [0, 1, 2, 3, 4, 5, 6, 7] rfl (by decide) (q0 := 0) (ci := 5) rfl rfl) rfl rfl hl.1 rfl (lv_room (Nat.le_of_ble_eq_true rfl)) d_Mo_execute_292 ⟨Nat.le_of_ble_eq_true rfl, Nat.le_of_ble_eq_true rfl⟩) (fun H locs hP hD hS => ?_)
            have hP : va_P D classes (W_Mo cI cL b0 b1 b2 b3 b4 b5 b6 b7 ev wr wg ke ma li ps pn cy ca va cn pp px go ne gi gn) H := hP
            have hD : va_D A (W_Mo cI cL b0 b1 b2 b3 b4 b5 b6 b7 ev wr wg ke ma li ps pn cy ca va cn pp px go ne gi gn) := hD
            refine lv_iload_n hx hb d_Mo_execute_295 rfl (lv_at hl 2 rfl) ?_
            refine lv_iload_n hx hb d_Mo_execute_296 rfl (lv_at hl 1 rfl) ?_
            refine lv_iconst (v := 0) hx hb d_Mo_execute_297 (by decide) ?_
            refine cj_v (wc := (W_Mo cI cL b0 b1 b2 b3 b4 b5 b6 b7 ev wr wg ke ma li ps pn cy ca va cn pp px go ne gi gn)) (w1 := (W_Mo cI cL b0 b1 b2 b3 b4 b5 b6 b7 ev wr wg ke ma li ps pn cy ((f_Mo_reckon ca va px gi gn (f_Mo_field px (12 : Int32) (3 : Int32)) (f_Mo_field px (25 : Int32) (7 : Int32)) (f_Mo_operand ke ma (f_Mo_field px (15 : Int32) (5 : Int32))) (f_Mo_operand ke ma (f_Mo_field px (20 : Int32) (5 : Int32))) (0 : Int32)).1) ((f_Mo_reckon ca va px gi gn (f_Mo_field px (12 : Int32) (3 : Int32)) (f_Mo_field px (25 : Int32) (7 : Int32)) (f_Mo_operand ke ma (f_Mo_field px (15 : Int32) (5 : Int32))) (f_Mo_operand ke ma (f_Mo_field px (20 : Int32) (5 : Int32))) (0 : Int32)).2.1) cn pp px go ne ((f_Mo_reckon ca va px gi gn (f_Mo_field px (12 : Int32) (3 : Int32)) (f_Mo_field px (25 : Int32) (7 : Int32)) (f_Mo_operand ke ma (f_Mo_field px (15 : Int32) (5 : Int32))) (f_Mo_operand ke ma (f_Mo_field px (20 : Int32) (5 : Int32))) (0 : Int32)).2.2.1) ((f_Mo_reckon ca va px gi gn (f_Mo_field px (12 : Int32) (3 : Int32)) (f_Mo_field px (25 : Int32) (7 : Int32)) (f_Mo_operand ke ma (f_Mo_field px (15 : Int32) (5 : Int32))) (f_Mo_operand ke ma (f_Mo_field px (20 : Int32) (5 : Int32))) (0 : Int32)).2.2.2))) hP hD hS hA [0, 1, 2, 3, 4, 5, 6, 7] rfl [b0, b1, b2, b3, b4, b5, b6, b7] rfl rfl (va_runV (rest := []) ⟨hx, hb, hml, hown, hg⟩ (c_Mo_reckon l D cI cL b0 b1 b2 b3 b4 b5 b6 b7 _ ev wr wg ke ma li ps pn cy ca va cn pp px go ne gi gn (f_Mo_field px (12 : Int32) (3 : Int32)) (f_Mo_field px (25 : Int32) (7 : Int32)) (f_Mo_operand ke ma (f_Mo_field px (15 : Int32) (5 : Int32))) (f_Mo_operand ke ma (f_Mo_field px (20 : Int32) (5 : Int32))) (0 : Int32)) ⟨callB_of 5 hg (gw_good m_701) rfl rfl rfl (hg _ m_71) (hg _ m_698) hd_Mo_reckon ⟨Nat.le_of_ble_eq_true rfl, Nat.le_of_ble_eq_true rfl⟩, hg _ m_700, hg _ m_60⟩ (pw_V hK hN hT hA hP hD hS [0, 1, 2, 3, 4, 5, 6, 7] rfl (by decide) (q0 := 0) (ci := 5) rfl rfl) rfl rfl hl.1 rfl (lv_room (Nat.le_of_ble_eq_true rfl)) d_Mo_execute_298 ⟨Nat.le_of_ble_eq_true rfl, Nat.le_of_ble_eq_true rfl⟩) (fun H locs hP hD hS => ?_)
            have hP : va_P D classes (W_Mo cI cL b0 b1 b2 b3 b4 b5 b6 b7 ev wr wg ke ma li ps pn cy ((f_Mo_reckon ca va px gi gn (f_Mo_field px (12 : Int32) (3 : Int32)) (f_Mo_field px (25 : Int32) (7 : Int32)) (f_Mo_operand ke ma (f_Mo_field px (15 : Int32) (5 : Int32))) (f_Mo_operand ke ma (f_Mo_field px (20 : Int32) (5 : Int32))) (0 : Int32)).1) ((f_Mo_reckon ca va px gi gn (f_Mo_field px (12 : Int32) (3 : Int32)) (f_Mo_field px (25 : Int32) (7 : Int32)) (f_Mo_operand ke ma (f_Mo_field px (15 : Int32) (5 : Int32))) (f_Mo_operand ke ma (f_Mo_field px (20 : Int32) (5 : Int32))) (0 : Int32)).2.1) cn pp px go ne ((f_Mo_reckon ca va px gi gn (f_Mo_field px (12 : Int32) (3 : Int32)) (f_Mo_field px (25 : Int32) (7 : Int32)) (f_Mo_operand ke ma (f_Mo_field px (15 : Int32) (5 : Int32))) (f_Mo_operand ke ma (f_Mo_field px (20 : Int32) (5 : Int32))) (0 : Int32)).2.2.1) ((f_Mo_reckon ca va px gi gn (f_Mo_field px (12 : Int32) (3 : Int32)) (f_Mo_field px (25 : Int32) (7 : Int32)) (f_Mo_operand ke ma (f_Mo_field px (15 : Int32) (5 : Int32))) (f_Mo_operand ke ma (f_Mo_field px (20 : Int32) (5 : Int32))) (0 : Int32)).2.2.2)) H := hP
            have hD : va_D A (W_Mo cI cL b0 b1 b2 b3 b4 b5 b6 b7 ev wr wg ke ma li ps pn cy ((f_Mo_reckon ca va px gi gn (f_Mo_field px (12 : Int32) (3 : Int32)) (f_Mo_field px (25 : Int32) (7 : Int32)) (f_Mo_operand ke ma (f_Mo_field px (15 : Int32) (5 : Int32))) (f_Mo_operand ke ma (f_Mo_field px (20 : Int32) (5 : Int32))) (0 : Int32)).1) ((f_Mo_reckon ca va px gi gn (f_Mo_field px (12 : Int32) (3 : Int32)) (f_Mo_field px (25 : Int32) (7 : Int32)) (f_Mo_operand ke ma (f_Mo_field px (15 : Int32) (5 : Int32))) (f_Mo_operand ke ma (f_Mo_field px (20 : Int32) (5 : Int32))) (0 : Int32)).2.1) cn pp px go ne ((f_Mo_reckon ca va px gi gn (f_Mo_field px (12 : Int32) (3 : Int32)) (f_Mo_field px (25 : Int32) (7 : Int32)) (f_Mo_operand ke ma (f_Mo_field px (15 : Int32) (5 : Int32))) (f_Mo_operand ke ma (f_Mo_field px (20 : Int32) (5 : Int32))) (0 : Int32)).2.2.1) ((f_Mo_reckon ca va px gi gn (f_Mo_field px (12 : Int32) (3 : Int32)) (f_Mo_field px (25 : Int32) (7 : Int32)) (f_Mo_operand ke ma (f_Mo_field px (15 : Int32) (5 : Int32))) (f_Mo_operand ke ma (f_Mo_field px (20 : Int32) (5 : Int32))) (0 : Int32)).2.2.2)) := hD
            generalize e_t7 : f_Mo_reckon ca va px gi gn (f_Mo_field px (12 : Int32) (3 : Int32)) (f_Mo_field px (25 : Int32) (7 : Int32)) (f_Mo_operand ke ma (f_Mo_field px (15 : Int32) (5 : Int32))) (f_Mo_operand ke ma (f_Mo_field px (20 : Int32) (5 : Int32))) (0 : Int32) = t7 at hP hD ⊢
            refine lv_goto (tgt := 309) hx hb d_Mo_execute_301 (by decide) ?_
            rw [f_Mo_execute_e6 wr wg ke ma li ca va cn pp px go ne gi gn t7 e_t7 h48_0 h48_1 h48_2 h48_3 h48_4]
            exact W.vret hx hb hr (fun t ht hW => ⟨⟨(), rfl, trivial, by show va_P D classes _ t.heap; rw [ht]; exact hP⟩, hS.F ht⟩) hS.2.2 d_Mo_execute_309 hlocks
          · by_cases h48_5 : (f_Mo_field px (0 : Int32) (7 : Int32)) = (55 : Int32)
            · refine lv_lookup (off := 84) (tgt := 132) hx hb d_Mo_execute_48 (by decide) (by first | (rw [h48_5]; done) | (rw [h48_5]; rfl)) (by decide) ?_
              refine lv_aload_n hx hb d_Mo_execute_132 rfl (lv_at hl 4 rfl) ?_
              refine lv_aload_n hx hb d_Mo_execute_133 rfl (lv_at hl 4 rfl) ?_
              refine va_get (ci := 5) (C := R_Mo) (T := F_Mo) (N := 18) hx hb hg in_Mo hown hK hP 0 rfl rfl 13 (by decide) (hg _ m_516) (fun _ h => h) rfl d_Mo_execute_134 ?_
              refine lv_sipush (v := -4096) hx hb d_Mo_execute_137 (by decide) ?_
              refine lv_iand hx hb d_Mo_execute_140 ?_
              refine cj_v (wc := (W_Mo cI cL b0 b1 b2 b3 b4 b5 b6 b7 ev wr wg ke ma li ps pn cy ca va cn pp px go ne gi gn)) (w1 := (W_Mo cI cL b0 b1 b2 b3 b4 b5 b6 b7 ev wr wg ke ma li ps pn cy ca va cn pp px go ne ((f_Mo_give gi gn (px &&& (-4096 : Int32))).1) ((f_Mo_give gi gn (px &&& (-4096 : Int32))).2))) hP hD hS hA [0, 1, 2, 3, 4, 5, 6, 7] rfl [b0, b1, b2, b3, b4, b5, b6, b7] rfl rfl (va_runV (rest := []) ⟨hx, hb, hml, hown, hg⟩ (c_Mo_give l D cI cL b0 b1 b2 b3 b4 b5 b6 b7 _ ev wr wg ke ma li ps pn cy ca va cn pp px go ne gi gn (px &&& (-4096 : Int32))) ⟨callB_of 1 hg (gw_good m_645) rfl rfl rfl (hg _ m_71) (hg _ m_642) hd_Mo_give ⟨Nat.le_of_ble_eq_true rfl, Nat.le_of_ble_eq_true rfl⟩, hg _ m_644, hg _ m_47⟩ (pw_V hK hN hT hA hP hD hS [0, 1, 2, 3, 4, 5, 6, 7] rfl (by decide) (q0 := 0) (ci := 5) rfl rfl) rfl rfl hl.1 rfl (lv_room (Nat.le_of_ble_eq_true rfl)) d_Mo_execute_141 ⟨Nat.le_of_ble_eq_true rfl, Nat.le_of_ble_eq_true rfl⟩) (fun H locs hP hD hS => ?_)
              have hP : va_P D classes (W_Mo cI cL b0 b1 b2 b3 b4 b5 b6 b7 ev wr wg ke ma li ps pn cy ca va cn pp px go ne ((f_Mo_give gi gn (px &&& (-4096 : Int32))).1) ((f_Mo_give gi gn (px &&& (-4096 : Int32))).2)) H := hP
              have hD : va_D A (W_Mo cI cL b0 b1 b2 b3 b4 b5 b6 b7 ev wr wg ke ma li ps pn cy ca va cn pp px go ne ((f_Mo_give gi gn (px &&& (-4096 : Int32))).1) ((f_Mo_give gi gn (px &&& (-4096 : Int32))).2)) := hD
              generalize e_t8 : f_Mo_give gi gn (px &&& (-4096 : Int32)) = t8 at hP hD ⊢
              refine lv_goto (tgt := 309) hx hb d_Mo_execute_144 (by decide) ?_
              rw [f_Mo_execute_e7 wr wg ke ma li ca va cn pp px go ne gi gn t8 e_t8 h48_0 h48_1 h48_2 h48_3 h48_4 h48_5]
              exact W.vret hx hb hr (fun t ht hW => ⟨⟨(), rfl, trivial, by show va_P D classes _ t.heap; rw [ht]; exact hP⟩, hS.F ht⟩) hS.2.2 d_Mo_execute_309 hlocks
            · by_cases h48_6 : (f_Mo_field px (0 : Int32) (7 : Int32)) = (99 : Int32)
              · refine lv_lookup (off := 160) (tgt := 208) hx hb d_Mo_execute_48 (by decide) (by first | (rw [h48_6]; done) | (rw [h48_6]; rfl)) (by decide) ?_
                refine lv_aload_n hx hb d_Mo_execute_208 rfl (lv_at hl 4 rfl) ?_
                refine lv_iload_n hx hb d_Mo_execute_209 rfl (lv_at hl 3 rfl) ?_
                refine lv_iload_n hx hb d_Mo_execute_210 rfl (lv_at hl 2 rfl) ?_
                refine lv_iload_n hx hb d_Mo_execute_211 rfl (lv_at hl 1 rfl) ?_
                refine cj_v (wc := (W_Mo cI cL b0 b1 b2 b3 b4 b5 b6 b7 ev wr wg ke ma li ps pn cy ca va cn pp px go ne gi gn)) (w1 := (W_Mo cI cL b0 b1 b2 b3 b4 b5 b6 b7 ev wr wg ke ma li ps pn cy ((f_Mo_branch ca va pp px ne (f_Mo_field px (12 : Int32) (3 : Int32)) (f_Mo_operand ke ma (f_Mo_field px (15 : Int32) (5 : Int32))) (f_Mo_operand ke ma (f_Mo_field px (20 : Int32) (5 : Int32)))).1) ((f_Mo_branch ca va pp px ne (f_Mo_field px (12 : Int32) (3 : Int32)) (f_Mo_operand ke ma (f_Mo_field px (15 : Int32) (5 : Int32))) (f_Mo_operand ke ma (f_Mo_field px (20 : Int32) (5 : Int32)))).2.1) cn pp px go ((f_Mo_branch ca va pp px ne (f_Mo_field px (12 : Int32) (3 : Int32)) (f_Mo_operand ke ma (f_Mo_field px (15 : Int32) (5 : Int32))) (f_Mo_operand ke ma (f_Mo_field px (20 : Int32) (5 : Int32)))).2.2) gi gn)) hP hD hS hA [0, 1, 2, 3, 4, 5, 6, 7] rfl [b0, b1, b2, b3, b4, b5, b6, b7] rfl rfl (va_runV (rest := []) ⟨hx, hb, hml, hown, hg⟩ (c_Mo_branch l D cI cL b0 b1 b2 b3 b4 b5 b6 b7 _ ev wr wg ke ma li ps pn cy ca va cn pp px go ne gi gn (f_Mo_field px (12 : Int32) (3 : Int32)) (f_Mo_operand ke ma (f_Mo_field px (15 : Int32) (5 : Int32))) (f_Mo_operand ke ma (f_Mo_field px (20 : Int32) (5 : Int32)))) ⟨callB_of 3 hg (gw_good m_665) rfl rfl rfl (hg _ m_71) (hg _ m_662) hd_Mo_branch ⟨Nat.le_of_ble_eq_true rfl, Nat.le_of_ble_eq_true rfl⟩, hg _ m_664, hg _ m_52⟩ (pw_V hK hN hT hA hP hD hS [0, 1, 2, 3, 4, 5, 6, 7] rfl (by decide) (q0 := 0) (ci := 5) rfl rfl) rfl rfl hl.1 rfl (lv_room (Nat.le_of_ble_eq_true rfl)) d_Mo_execute_212 ⟨Nat.le_of_ble_eq_true rfl, Nat.le_of_ble_eq_true rfl⟩) (fun H locs hP hD hS => ?_)
                have hP : va_P D classes (W_Mo cI cL b0 b1 b2 b3 b4 b5 b6 b7 ev wr wg ke ma li ps pn cy ((f_Mo_branch ca va pp px ne (f_Mo_field px (12 : Int32) (3 : Int32)) (f_Mo_operand ke ma (f_Mo_field px (15 : Int32) (5 : Int32))) (f_Mo_operand ke ma (f_Mo_field px (20 : Int32) (5 : Int32)))).1) ((f_Mo_branch ca va pp px ne (f_Mo_field px (12 : Int32) (3 : Int32)) (f_Mo_operand ke ma (f_Mo_field px (15 : Int32) (5 : Int32))) (f_Mo_operand ke ma (f_Mo_field px (20 : Int32) (5 : Int32)))).2.1) cn pp px go ((f_Mo_branch ca va pp px ne (f_Mo_field px (12 : Int32) (3 : Int32)) (f_Mo_operand ke ma (f_Mo_field px (15 : Int32) (5 : Int32))) (f_Mo_operand ke ma (f_Mo_field px (20 : Int32) (5 : Int32)))).2.2) gi gn) H := hP
                have hD : va_D A (W_Mo cI cL b0 b1 b2 b3 b4 b5 b6 b7 ev wr wg ke ma li ps pn cy ((f_Mo_branch ca va pp px ne (f_Mo_field px (12 : Int32) (3 : Int32)) (f_Mo_operand ke ma (f_Mo_field px (15 : Int32) (5 : Int32))) (f_Mo_operand ke ma (f_Mo_field px (20 : Int32) (5 : Int32)))).1) ((f_Mo_branch ca va pp px ne (f_Mo_field px (12 : Int32) (3 : Int32)) (f_Mo_operand ke ma (f_Mo_field px (15 : Int32) (5 : Int32))) (f_Mo_operand ke ma (f_Mo_field px (20 : Int32) (5 : Int32)))).2.1) cn pp px go ((f_Mo_branch ca va pp px ne (f_Mo_field px (12 : Int32) (3 : Int32)) (f_Mo_operand ke ma (f_Mo_field px (15 : Int32) (5 : Int32))) (f_Mo_operand ke ma (f_Mo_field px (20 : Int32) (5 : Int32)))).2.2) gi gn) := hD
                generalize e_t9 : f_Mo_branch ca va pp px ne (f_Mo_field px (12 : Int32) (3 : Int32)) (f_Mo_operand ke ma (f_Mo_field px (15 : Int32) (5 : Int32))) (f_Mo_operand ke ma (f_Mo_field px (20 : Int32) (5 : Int32))) = t9 at hP hD ⊢
                refine lv_goto (tgt := 309) hx hb d_Mo_execute_215 (by decide) ?_
                rw [f_Mo_execute_e8 wr wg ke ma li ca va cn pp px go ne gi gn t9 e_t9 h48_0 h48_1 h48_2 h48_3 h48_4 h48_5 h48_6]
                exact W.vret hx hb hr (fun t ht hW => ⟨⟨(), rfl, trivial, by show va_P D classes _ t.heap; rw [ht]; exact hP⟩, hS.F ht⟩) hS.2.2 d_Mo_execute_309 hlocks
              · by_cases h48_7 : (f_Mo_field px (0 : Int32) (7 : Int32)) = (103 : Int32)
                · refine lv_lookup (off := 145) (tgt := 193) hx hb d_Mo_execute_48 (by decide) (by first | (rw [h48_7]; done) | (rw [h48_7]; rfl)) (by decide) ?_
                  refine lv_aload_n hx hb d_Mo_execute_193 rfl (lv_at hl 4 rfl) ?_
                  refine lv_iload_n hx hb d_Mo_execute_194 rfl (lv_at hl 3 rfl) ?_
                  refine lv_iload_n hx hb d_Mo_execute_195 rfl (lv_at hl 2 rfl) ?_
                  refine lv_iload hx hb d_Mo_execute_196 (lv_at hl 0 rfl) ?_
                  refine lv_iadd hx hb d_Mo_execute_198 ?_
                  refine lv_bipush (v := -2) hx hb d_Mo_execute_199 (by decide) ?_
                  refine lv_iand hx hb d_Mo_execute_201 ?_
                  refine cj_v (wc := (W_Mo cI cL b0 b1 b2 b3 b4 b5 b6 b7 ev wr wg ke ma li ps pn cy ca va cn pp px go ne gi gn)) (w1 := (W_Mo cI cL b0 b1 b2 b3 b4 b5 b6 b7 ev wr wg ke ma li ps pn cy ((f_Mo_jump ca va pp px ne gi gn (f_Mo_field px (12 : Int32) (3 : Int32)) (((f_Mo_operand ke ma (f_Mo_field px (15 : Int32) (5 : Int32))) + (px >>> ((20 : Int32) &&& 31))) &&& (-2 : Int32))).1) ((f_Mo_jump ca va pp px ne gi gn (f_Mo_field px (12 : Int32) (3 : Int32)) (((f_Mo_operand ke ma (f_Mo_field px (15 : Int32) (5 : Int32))) + (px >>> ((20 : Int32) &&& 31))) &&& (-2 : Int32))).2.1) cn pp px go ((f_Mo_jump ca va pp px ne gi gn (f_Mo_field px (12 : Int32) (3 : Int32)) (((f_Mo_operand ke ma (f_Mo_field px (15 : Int32) (5 : Int32))) + (px >>> ((20 : Int32) &&& 31))) &&& (-2 : Int32))).2.2.1) ((f_Mo_jump ca va pp px ne gi gn (f_Mo_field px (12 : Int32) (3 : Int32)) (((f_Mo_operand ke ma (f_Mo_field px (15 : Int32) (5 : Int32))) + (px >>> ((20 : Int32) &&& 31))) &&& (-2 : Int32))).2.2.2.1) ((f_Mo_jump ca va pp px ne gi gn (f_Mo_field px (12 : Int32) (3 : Int32)) (((f_Mo_operand ke ma (f_Mo_field px (15 : Int32) (5 : Int32))) + (px >>> ((20 : Int32) &&& 31))) &&& (-2 : Int32))).2.2.2.2))) hP hD hS hA [0, 1, 2, 3, 4, 5, 6, 7] rfl [b0, b1, b2, b3, b4, b5, b6, b7] rfl rfl (va_runV (rest := []) ⟨hx, hb, hml, hown, hg⟩ (c_Mo_jump l D cI cL b0 b1 b2 b3 b4 b5 b6 b7 _ ev wr wg ke ma li ps pn cy ca va cn pp px go ne gi gn (f_Mo_field px (12 : Int32) (3 : Int32)) (((f_Mo_operand ke ma (f_Mo_field px (15 : Int32) (5 : Int32))) + (px >>> ((20 : Int32) &&& 31))) &&& (-2 : Int32))) ⟨callB_of 2 hg (gw_good m_657) rfl rfl rfl (hg _ m_71) (hg _ m_654) hd_Mo_jump ⟨Nat.le_of_ble_eq_true rfl, Nat.le_of_ble_eq_true rfl⟩, hg _ m_656, hg _ m_50⟩ (pw_V hK hN hT hA hP hD hS [0, 1, 2, 3, 4, 5, 6, 7] rfl (by decide) (q0 := 0) (ci := 5) rfl rfl) rfl rfl hl.1 rfl (lv_room (Nat.le_of_ble_eq_true rfl)) d_Mo_execute_202 ⟨Nat.le_of_ble_eq_true rfl, Nat.le_of_ble_eq_true rfl⟩) (fun H locs hP hD hS => ?_)
                  have hP : va_P D classes (W_Mo cI cL b0 b1 b2 b3 b4 b5 b6 b7 ev wr wg ke ma li ps pn cy ((f_Mo_jump ca va pp px ne gi gn (f_Mo_field px (12 : Int32) (3 : Int32)) (((f_Mo_operand ke ma (f_Mo_field px (15 : Int32) (5 : Int32))) + (px >>> ((20 : Int32) &&& 31))) &&& (-2 : Int32))).1) ((f_Mo_jump ca va pp px ne gi gn (f_Mo_field px (12 : Int32) (3 : Int32)) (((f_Mo_operand ke ma (f_Mo_field px (15 : Int32) (5 : Int32))) + (px >>> ((20 : Int32) &&& 31))) &&& (-2 : Int32))).2.1) cn pp px go ((f_Mo_jump ca va pp px ne gi gn (f_Mo_field px (12 : Int32) (3 : Int32)) (((f_Mo_operand ke ma (f_Mo_field px (15 : Int32) (5 : Int32))) + (px >>> ((20 : Int32) &&& 31))) &&& (-2 : Int32))).2.2.1) ((f_Mo_jump ca va pp px ne gi gn (f_Mo_field px (12 : Int32) (3 : Int32)) (((f_Mo_operand ke ma (f_Mo_field px (15 : Int32) (5 : Int32))) + (px >>> ((20 : Int32) &&& 31))) &&& (-2 : Int32))).2.2.2.1) ((f_Mo_jump ca va pp px ne gi gn (f_Mo_field px (12 : Int32) (3 : Int32)) (((f_Mo_operand ke ma (f_Mo_field px (15 : Int32) (5 : Int32))) + (px >>> ((20 : Int32) &&& 31))) &&& (-2 : Int32))).2.2.2.2)) H := hP
                  have hD : va_D A (W_Mo cI cL b0 b1 b2 b3 b4 b5 b6 b7 ev wr wg ke ma li ps pn cy ((f_Mo_jump ca va pp px ne gi gn (f_Mo_field px (12 : Int32) (3 : Int32)) (((f_Mo_operand ke ma (f_Mo_field px (15 : Int32) (5 : Int32))) + (px >>> ((20 : Int32) &&& 31))) &&& (-2 : Int32))).1) ((f_Mo_jump ca va pp px ne gi gn (f_Mo_field px (12 : Int32) (3 : Int32)) (((f_Mo_operand ke ma (f_Mo_field px (15 : Int32) (5 : Int32))) + (px >>> ((20 : Int32) &&& 31))) &&& (-2 : Int32))).2.1) cn pp px go ((f_Mo_jump ca va pp px ne gi gn (f_Mo_field px (12 : Int32) (3 : Int32)) (((f_Mo_operand ke ma (f_Mo_field px (15 : Int32) (5 : Int32))) + (px >>> ((20 : Int32) &&& 31))) &&& (-2 : Int32))).2.2.1) ((f_Mo_jump ca va pp px ne gi gn (f_Mo_field px (12 : Int32) (3 : Int32)) (((f_Mo_operand ke ma (f_Mo_field px (15 : Int32) (5 : Int32))) + (px >>> ((20 : Int32) &&& 31))) &&& (-2 : Int32))).2.2.2.1) ((f_Mo_jump ca va pp px ne gi gn (f_Mo_field px (12 : Int32) (3 : Int32)) (((f_Mo_operand ke ma (f_Mo_field px (15 : Int32) (5 : Int32))) + (px >>> ((20 : Int32) &&& 31))) &&& (-2 : Int32))).2.2.2.2)) := hD
                  generalize e_t10 : f_Mo_jump ca va pp px ne gi gn (f_Mo_field px (12 : Int32) (3 : Int32)) (((f_Mo_operand ke ma (f_Mo_field px (15 : Int32) (5 : Int32))) + (px >>> ((20 : Int32) &&& 31))) &&& (-2 : Int32)) = t10 at hP hD ⊢
                  refine lv_goto (tgt := 309) hx hb d_Mo_execute_205 (by decide) ?_
                  rw [f_Mo_execute_e9 wr wg ke ma li ca va cn pp px go ne gi gn t10 e_t10 h48_0 h48_1 h48_2 h48_3 h48_4 h48_5 h48_6 h48_7]
                  exact W.vret hx hb hr (fun t ht hW => ⟨⟨(), rfl, trivial, by show va_P D classes _ t.heap; rw [ht]; exact hP⟩, hS.F ht⟩) hS.2.2 d_Mo_execute_309 hlocks
                · by_cases h48_8 : (f_Mo_field px (0 : Int32) (7 : Int32)) = (111 : Int32)
                  · refine lv_lookup (off := 119) (tgt := 167) hx hb d_Mo_execute_48 (by decide) (by first | (rw [h48_8]; done) | (rw [h48_8]; rfl)) (by decide) ?_
                    refine lv_aload_n hx hb d_Mo_execute_167 rfl (lv_at hl 4 rfl) ?_
                    refine lv_aload_n hx hb d_Mo_execute_168 rfl (lv_at hl 4 rfl) ?_
                    refine va_get (ci := 5) (C := R_Mo) (T := F_Mo) (N := 18) hx hb hg in_Mo hown hK hP 0 rfl rfl 12 (by decide) (hg _ m_515) (fun _ h => h) rfl d_Mo_execute_169 ?_
                    refine lv_iconst (v := 4) hx hb d_Mo_execute_172 (by decide) ?_
                    refine lv_iadd hx hb d_Mo_execute_173 ?_
                    refine cj_v (wc := (W_Mo cI cL b0 b1 b2 b3 b4 b5 b6 b7 ev wr wg ke ma li ps pn cy ca va cn pp px go ne gi gn)) (w1 := (W_Mo cI cL b0 b1 b2 b3 b4 b5 b6 b7 ev wr wg ke ma li ps pn cy ca va cn pp px go ne ((f_Mo_give gi gn (pp + (4 : Int32))).1) ((f_Mo_give gi gn (pp + (4 : Int32))).2))) hP hD hS hA [0, 1, 2, 3, 4, 5, 6, 7] rfl [b0, b1, b2, b3, b4, b5, b6, b7] rfl rfl (va_runV (rest := []) ⟨hx, hb, hml, hown, hg⟩ (c_Mo_give l D cI cL b0 b1 b2 b3 b4 b5 b6 b7 _ ev wr wg ke ma li ps pn cy ca va cn pp px go ne gi gn (pp + (4 : Int32))) ⟨callB_of 1 hg (gw_good m_645) rfl rfl rfl (hg _ m_71) (hg _ m_642) hd_Mo_give ⟨Nat.le_of_ble_eq_true rfl, Nat.le_of_ble_eq_true rfl⟩, hg _ m_644, hg _ m_47⟩ (pw_V hK hN hT hA hP hD hS [0, 1, 2, 3, 4, 5, 6, 7] rfl (by decide) (q0 := 0) (ci := 5) rfl rfl) rfl rfl hl.1 rfl (lv_room (Nat.le_of_ble_eq_true rfl)) d_Mo_execute_174 ⟨Nat.le_of_ble_eq_true rfl, Nat.le_of_ble_eq_true rfl⟩) (fun H locs hP hD hS => ?_)
                    have hP : va_P D classes (W_Mo cI cL b0 b1 b2 b3 b4 b5 b6 b7 ev wr wg ke ma li ps pn cy ca va cn pp px go ne ((f_Mo_give gi gn (pp + (4 : Int32))).1) ((f_Mo_give gi gn (pp + (4 : Int32))).2)) H := hP
                    have hD : va_D A (W_Mo cI cL b0 b1 b2 b3 b4 b5 b6 b7 ev wr wg ke ma li ps pn cy ca va cn pp px go ne ((f_Mo_give gi gn (pp + (4 : Int32))).1) ((f_Mo_give gi gn (pp + (4 : Int32))).2)) := hD
                    generalize e_t11 : f_Mo_give gi gn (pp + (4 : Int32)) = t11 at hP hD ⊢
                    refine lv_aload_n hx hb d_Mo_execute_177 rfl (lv_at hl 4 rfl) ?_
                    refine lv_aload_n hx hb d_Mo_execute_178 rfl (lv_at hl 4 rfl) ?_
                    refine va_get (ci := 5) (C := R_Mo) (T := F_Mo) (N := 18) hx hb hg in_Mo hown hK hP 0 rfl rfl 12 (by decide) (hg _ m_515) (fun _ h => h) rfl d_Mo_execute_179 ?_
                    refine lv_aload_n hx hb d_Mo_execute_182 rfl (lv_at hl 4 rfl) ?_
                    refine cj_i (wc := (W_Mo cI cL b0 b1 b2 b3 b4 b5 b6 b7 ev wr wg ke ma li ps pn cy ca va cn pp px go ne t11.1 t11.2)) (w1 := (W_Mo cI cL b0 b1 b2 b3 b4 b5 b6 b7 ev wr wg ke ma li ps pn cy ca va cn pp px go ne t11.1 t11.2)) hP hD hS hA [0, 1, 2, 3, 4, 5, 6, 7] rfl [b0, b1, b2, b3, b4, b5, b6, b7] rfl rfl (va_runV (rest := [.int _, .ref _]) ⟨hx, hb, hml, hown, hg⟩ (c_Mo_numberL l D cI cL b0 b1 b2 b3 b4 b5 b6 b7 _ ev wr wg ke ma li ps pn cy ca va cn pp px go ne t11.1 t11.2) ⟨callB_of 0 hg (gw_good m_649) rfl rfl rfl (hg _ m_71) (hg _ m_646) hd_Mo_numberL ⟨Nat.le_of_ble_eq_true rfl, Nat.le_of_ble_eq_true rfl⟩, hg _ m_648, hg _ m_48⟩ (pw_V hK hN hT hA hP hD hS [0, 1, 2, 3, 4, 5, 6, 7] rfl (by decide) (q0 := 0) (ci := 5) rfl rfl) rfl rfl hl.1 rfl (lv_room (Nat.le_of_ble_eq_true rfl)) d_Mo_execute_183 ⟨Nat.le_of_ble_eq_true rfl, Nat.le_of_ble_eq_true rfl⟩) (fun H locs hP hD hS => ?_)
                    have hP : va_P D classes (W_Mo cI cL b0 b1 b2 b3 b4 b5 b6 b7 ev wr wg ke ma li ps pn cy ca va cn pp px go ne t11.1 t11.2) H := hP
                    have hD : va_D A (W_Mo cI cL b0 b1 b2 b3 b4 b5 b6 b7 ev wr wg ke ma li ps pn cy ca va cn pp px go ne t11.1 t11.2) := hD
                    refine lv_iadd hx hb d_Mo_execute_186 ?_
                    refine cj_v (wc := (W_Mo cI cL b0 b1 b2 b3 b4 b5 b6 b7 ev wr wg ke ma li ps pn cy ca va cn pp px go ne t11.1 t11.2)) (w1 := (W_Mo cI cL b0 b1 b2 b3 b4 b5 b6 b7 ev wr wg ke ma li ps pn cy ((f_Mo_go ca va ne (pp + (f_Mo_numberL px))).1) ((f_Mo_go ca va ne (pp + (f_Mo_numberL px))).2.1) cn pp px go ((f_Mo_go ca va ne (pp + (f_Mo_numberL px))).2.2) t11.1 t11.2)) hP hD hS hA [0, 1, 2, 3, 4, 5, 6, 7] rfl [b0, b1, b2, b3, b4, b5, b6, b7] rfl rfl (va_runV (rest := []) ⟨hx, hb, hml, hown, hg⟩ (c_Mo_go l D cI cL b0 b1 b2 b3 b4 b5 b6 b7 _ ev wr wg ke ma li ps pn cy ca va cn pp px go ne t11.1 t11.2 (pp + (f_Mo_numberL px))) ⟨callB_of 1 hg (gw_good m_653) rfl rfl rfl (hg _ m_71) (hg _ m_650) hd_Mo_go ⟨Nat.le_of_ble_eq_true rfl, Nat.le_of_ble_eq_true rfl⟩, hg _ m_652, hg _ m_49⟩ (pw_V hK hN hT hA hP hD hS [0, 1, 2, 3, 4, 5, 6, 7] rfl (by decide) (q0 := 0) (ci := 5) rfl rfl) rfl rfl hl.1 rfl (lv_room (Nat.le_of_ble_eq_true rfl)) d_Mo_execute_187 ⟨Nat.le_of_ble_eq_true rfl, Nat.le_of_ble_eq_true rfl⟩) (fun H locs hP hD hS => ?_)
                    have hP : va_P D classes (W_Mo cI cL b0 b1 b2 b3 b4 b5 b6 b7 ev wr wg ke ma li ps pn cy ((f_Mo_go ca va ne (pp + (f_Mo_numberL px))).1) ((f_Mo_go ca va ne (pp + (f_Mo_numberL px))).2.1) cn pp px go ((f_Mo_go ca va ne (pp + (f_Mo_numberL px))).2.2) t11.1 t11.2) H := hP
                    have hD : va_D A (W_Mo cI cL b0 b1 b2 b3 b4 b5 b6 b7 ev wr wg ke ma li ps pn cy ((f_Mo_go ca va ne (pp + (f_Mo_numberL px))).1) ((f_Mo_go ca va ne (pp + (f_Mo_numberL px))).2.1) cn pp px go ((f_Mo_go ca va ne (pp + (f_Mo_numberL px))).2.2) t11.1 t11.2) := hD
                    generalize e_t12 : f_Mo_go ca va ne (pp + (f_Mo_numberL px)) = t12 at hP hD ⊢
                    refine lv_goto (tgt := 309) hx hb d_Mo_execute_190 (by decide) ?_
                    rw [f_Mo_execute_e10 wr wg ke ma li ca va cn pp px go ne gi gn t11 t12 e_t11 e_t12 h48_0 h48_1 h48_2 h48_3 h48_4 h48_5 h48_6 h48_7 h48_8]
                    exact W.vret hx hb hr (fun t ht hW => ⟨⟨(), rfl, trivial, by show va_P D classes _ t.heap; rw [ht]; exact hP⟩, hS.F ht⟩) hS.2.2 d_Mo_execute_309 hlocks
                  · refine lv_lookup (off := 256) (tgt := 304) hx hb d_Mo_execute_48 (by decide) (by first | (rw [lv_osw h48_0 (by decide), lv_osw h48_1 (by decide), lv_osw h48_2 (by decide), lv_osw h48_3 (by decide), lv_osw h48_4 (by decide), lv_osw h48_5 (by decide), lv_osw h48_6 (by decide), lv_osw h48_7 (by decide), lv_osw h48_8 (by decide)]; done) | (rw [lv_osw h48_0 (by decide), lv_osw h48_1 (by decide), lv_osw h48_2 (by decide), lv_osw h48_3 (by decide), lv_osw h48_4 (by decide), lv_osw h48_5 (by decide), lv_osw h48_6 (by decide), lv_osw h48_7 (by decide), lv_osw h48_8 (by decide)]; rfl)) (by decide) ?_
                    refine lv_aload_n hx hb d_Mo_execute_304 rfl (lv_at hl 4 rfl) ?_
                    refine lv_iload_n hx hb d_Mo_execute_305 rfl (lv_at hl 3 rfl) ?_
                    refine cj_v (wc := (W_Mo cI cL b0 b1 b2 b3 b4 b5 b6 b7 ev wr wg ke ma li ps pn cy ca va cn pp px go ne gi gn)) (w1 := (W_Mo cI cL b0 b1 b2 b3 b4 b5 b6 b7 ev wr wg ke ma li ps pn cy ((f_Mo_rest ca va px (f_Mo_field px (12 : Int32) (3 : Int32))).1) ((f_Mo_rest ca va px (f_Mo_field px (12 : Int32) (3 : Int32))).2) cn pp px go ne gi gn)) hP hD hS hA [0, 1, 2, 3, 4, 5, 6, 7] rfl [b0, b1, b2, b3, b4, b5, b6, b7] rfl rfl (va_runV (rest := []) ⟨hx, hb, hml, hown, hg⟩ (c_Mo_rest l D cI cL b0 b1 b2 b3 b4 b5 b6 b7 _ ev wr wg ke ma li ps pn cy ca va cn pp px go ne gi gn (f_Mo_field px (12 : Int32) (3 : Int32))) ⟨callB_of 1 hg (gw_good m_709) rfl rfl rfl (hg _ m_71) (hg _ m_706) hd_Mo_rest ⟨Nat.le_of_ble_eq_true rfl, Nat.le_of_ble_eq_true rfl⟩, hg _ m_708, hg _ m_62⟩ (pw_V hK hN hT hA hP hD hS [0, 1, 2, 3, 4, 5, 6, 7] rfl (by decide) (q0 := 0) (ci := 5) rfl rfl) rfl rfl hl.1 rfl (lv_room (Nat.le_of_ble_eq_true rfl)) d_Mo_execute_306 ⟨Nat.le_of_ble_eq_true rfl, Nat.le_of_ble_eq_true rfl⟩) (fun H locs hP hD hS => ?_)
                    have hP : va_P D classes (W_Mo cI cL b0 b1 b2 b3 b4 b5 b6 b7 ev wr wg ke ma li ps pn cy ((f_Mo_rest ca va px (f_Mo_field px (12 : Int32) (3 : Int32))).1) ((f_Mo_rest ca va px (f_Mo_field px (12 : Int32) (3 : Int32))).2) cn pp px go ne gi gn) H := hP
                    have hD : va_D A (W_Mo cI cL b0 b1 b2 b3 b4 b5 b6 b7 ev wr wg ke ma li ps pn cy ((f_Mo_rest ca va px (f_Mo_field px (12 : Int32) (3 : Int32))).1) ((f_Mo_rest ca va px (f_Mo_field px (12 : Int32) (3 : Int32))).2) cn pp px go ne gi gn) := hD
                    generalize e_t13 : f_Mo_rest ca va px (f_Mo_field px (12 : Int32) (3 : Int32)) = t13 at hP hD ⊢
                    rw [f_Mo_execute_e11 wr wg ke ma li ca va cn pp px go ne gi gn t13 e_t13 h48_0 h48_1 h48_2 h48_3 h48_4 h48_5 h48_6 h48_7 h48_8]
                    exact W.vret hx hb hr (fun t ht hW => ⟨⟨(), rfl, trivial, by show va_P D classes _ t.heap; rw [ht]; exact hP⟩, hS.F ht⟩) hS.2.2 d_Mo_execute_309 hlocks
abbrev q_Mo_change (D : va_G) (cI cL : ClassId) (b0 b1 b2 b3 b4 b5 b6 b7 : Nat) (A : Nat → Prop) (ev : Int32) (wr : Nat → Int32) (wg : Nat → Int64) (ke : Nat → Int32) (ma : Nat → Int32) (li : Nat → Int64) (ps : Int32) (pn : Nat → Int32) (cy : Int32) (ca : Int32) (va : Int32) (cn : Nat → Int32) (pp : Int32) (px : Int32) (go : Int32) (ne : Int32) (gi : Int32) (gn : Int32) (F : (Nat → Int64) × (Nat → Int32) × (Nat → Int64)) : Array Value → State → Outcome → State → Prop := va_Qv (fun (_ : Unit) => True) (fun _ t => va_P D classes (W_Mo cI cL b0 b1 b2 b3 b4 b5 b6 b7 ev wr F.1 ke F.2.1 F.2.2 ps pn cy ca va cn pp px go ne gi gn) t.heap) A
theorem f_Mo_change_e0 (wg : Nat → Int64) (ma : Nat → Int32) (li : Nat → Int64) (part : Int32) (bit : Int32)  (h3 : (64 : Int32) ≤ part) (h29 : (160 : Int32) ≤ part) : f_Mo_change wg ma li part bit = (wg, ma, (vp_updL li (part - (160 : Int32)).toNatClampNeg ((li (part - (160 : Int32)).toNatClampNeg) ^^^ (u_lshl (1 : Int64) bit)))) := by
  exact ((if_pos h3).trans (if_pos h29))
theorem f_Mo_change_e1 (wg : Nat → Int64) (ma : Nat → Int32) (li : Nat → Int64) (part : Int32) (bit : Int32)  (h3 : (64 : Int32) ≤ part) (h29 : ¬ (160 : Int32) ≤ part) : f_Mo_change wg ma li part bit = (wg, (upd ma (part - (64 : Int32)).toNatClampNeg ((ma (part - (64 : Int32)).toNatClampNeg) ^^^ ((1 : Int32) <<< (bit &&& 31)))), li) := by
  exact ((if_pos h3).trans (if_neg h29))
theorem f_Mo_change_e2 (wg : Nat → Int64) (ma : Nat → Int32) (li : Nat → Int64) (part : Int32) (bit : Int32)  (h3 : ¬ (64 : Int32) ≤ part) : f_Mo_change wg ma li part bit = ((vp_updL wg part.toNatClampNeg ((wg part.toNatClampNeg) ^^^ (u_lshl (1 : Int64) bit))), ma, li) := by
  exact (if_neg h3)
set_option maxHeartbeats 4000000 in
set_option maxRecDepth 100000 in
theorem c_Mo_change (l : Launch) (D : va_G) (cI cL : ClassId) (b0 b1 b2 b3 b4 b5 b6 b7 : Nat) (sz : Nat) (ev : Int32) (wr : Nat → Int32) (wg : Nat → Int64) (ke : Nat → Int32) (ma : Nat → Int32) (li : Nat → Int64) (ps : Int32) (pn : Nat → Int32) (cy : Int32) (ca : Int32) (va : Int32) (cn : Nat → Int32) (pp : Int32) (px : Int32) (go : Int32) (ne : Int32) (gi : Int32) (gn : Int32) (part : Int32) (bit : Int32) (h_part : vp_in part 168) : Met l y_Mo_change w_Mo_change ({ frames := 0, cells := 0, slots := 0, locals := 0 }) (va_Pc [.ref b0, .int part, .int bit] (PW D cI cL (W_Mo cI cL b0 b1 b2 b3 b4 b5 b6 b7 ev wr wg ke ma li ps pn cy ca va cn pp px go ne gi gn) sz)) (q_Mo_change D cI cL b0 b1 b2 b3 b4 b5 b6 b7 (va_A (W_Mo cI cL b0 b1 b2 b3 b4 b5 b6 b7 ev wr wg ke ma li ps pn cy ca va cn pp px go ne gi gn) sz) ev wr wg ke ma li ps pn cy ca va cn pp px go ne gi gn (f_Mo_change wg ma li part bit)) 0 0 (va_A (W_Mo cI cL b0 b1 b2 b3 b4 b5 b6 b7 ev wr wg ke ma li ps pn cy ca va cn pp px go ne gi gn) sz) := by
  refine mk_met (Qf := fun A => q_Mo_change D cI cL b0 b1 b2 b3 b4 b5 b6 b7 A ev wr wg ke ma li ps pn cy ca va cn pp px go ne gi gn (f_Mo_change wg ma li part bit)) (by decide) (Nat.le_of_ble_eq_true rfl) ?_
  intro p e s m below meth c A ls hx hb hr hlocks hml hown hg hK hN hT hA hP hD hS hnm hl
  refine lv_iload_n hx hb d_Mo_change_0 rfl (lv_at hl 1 rfl) ?_
  refine lv_bipush (v := 64) hx hb d_Mo_change_1 (by decide) ?_
  refine lv_icmp_ge (tgt := 25) hx hb d_Mo_change_3 (by decide) (fun h3 => ?_) (fun h3 => ?_)
  · refine lv_iload_n hx hb d_Mo_change_25 rfl (lv_at hl 1 rfl) ?_
    refine lv_sipush (v := 160) hx hb d_Mo_change_26 (by decide) ?_
    refine lv_icmp_ge (tgt := 57) hx hb d_Mo_change_29 (by decide) (fun h29 => ?_) (fun h29 => ?_)
    · refine lv_aload_n hx hb d_Mo_change_57 rfl (lv_at hl 0 rfl) ?_
      refine va_get (ci := 5) (C := R_Mo) (T := F_Mo) (N := 18) hx hb hg in_Mo hown hK hP 0 rfl rfl 5 (by decide) (hg _ m_508) (fun _ h => h) rfl d_Mo_change_58 ?_
      refine lv_iload_n hx hb d_Mo_change_61 rfl (lv_at hl 1 rfl) ?_
      refine lv_sipush (v := 160) hx hb d_Mo_change_62 (by decide) ?_
      refine lv_isub hx hb d_Mo_change_65 ?_
      refine lv_aload_n hx hb d_Mo_change_66 rfl (lv_at hl 0 rfl) ?_
      refine va_get (ci := 5) (C := R_Mo) (T := F_Mo) (N := 18) hx hb hg in_Mo hown hK hP 0 rfl rfl 5 (by decide) (hg _ m_508) (fun _ h => h) rfl d_Mo_change_67 ?_
      refine lv_iload_n hx hb d_Mo_change_70 rfl (lv_at hl 1 rfl) ?_
      refine lv_sipush (v := 160) hx hb d_Mo_change_71 (by decide) ?_
      refine lv_isub hx hb d_Mo_change_74 ?_
      refine va_lald hx hb hK hP 5 1 rfl rfl (iv_e h_part h29) d_Mo_change_75 ?_
      refine lv_lconst (v := 1) hx hb d_Mo_change_76 (by decide) ?_
      refine lv_iload_n hx hb d_Mo_change_77 rfl (lv_at hl 2 rfl) ?_
      refine lv_lshl (v := u_lshl _ _) hx hb d_Mo_change_78 rfl ?_
      refine lv_lxor hx hb d_Mo_change_79 ?_
      refine va_last hx hb hK hP hD hS 5 1 rfl rfl (iv_e h_part h29) d_Mo_change_80 (fun H locs hP hD hS => ?_)
      have hP : va_P D classes (W_Mo cI cL b0 b1 b2 b3 b4 b5 b6 b7 ev wr wg ke ma (vp_updL li (part - (160 : Int32)).toNatClampNeg ((li (part - (160 : Int32)).toNatClampNeg) ^^^ (u_lshl (1 : Int64) bit))) ps pn cy ca va cn pp px go ne gi gn) H := hP
      have hD : va_D A (W_Mo cI cL b0 b1 b2 b3 b4 b5 b6 b7 ev wr wg ke ma (vp_updL li (part - (160 : Int32)).toNatClampNeg ((li (part - (160 : Int32)).toNatClampNeg) ^^^ (u_lshl (1 : Int64) bit))) ps pn cy ca va cn pp px go ne gi gn) := hD
      rw [f_Mo_change_e0 wg ma li part bit h3 h29]
      exact W.vret hx hb hr (fun t ht hW => ⟨⟨(), rfl, trivial, by show va_P D classes _ t.heap; rw [ht]; exact hP⟩, hS.F ht⟩) hS.2.2 d_Mo_change_81 hlocks
    · refine lv_aload_n hx hb d_Mo_change_32 rfl (lv_at hl 0 rfl) ?_
      refine va_get (ci := 5) (C := R_Mo) (T := F_Mo) (N := 18) hx hb hg in_Mo hown hK hP 0 rfl rfl 4 (by decide) (hg _ m_507) (fun _ h => h) rfl d_Mo_change_33 ?_
      refine lv_iload_n hx hb d_Mo_change_36 rfl (lv_at hl 1 rfl) ?_
      refine lv_bipush (v := 64) hx hb d_Mo_change_37 (by decide) ?_
      refine lv_isub hx hb d_Mo_change_39 ?_
      refine lv_aload_n hx hb d_Mo_change_40 rfl (lv_at hl 0 rfl) ?_
      refine va_get (ci := 5) (C := R_Mo) (T := F_Mo) (N := 18) hx hb hg in_Mo hown hK hP 0 rfl rfl 4 (by decide) (hg _ m_507) (fun _ h => h) rfl d_Mo_change_41 ?_
      refine lv_iload_n hx hb d_Mo_change_44 rfl (lv_at hl 1 rfl) ?_
      refine lv_bipush (v := 64) hx hb d_Mo_change_45 (by decide) ?_
      refine lv_isub hx hb d_Mo_change_47 ?_
      refine va_iald hx hb hK hP 4 0 rfl rfl (iv_b h3 h29) d_Mo_change_48 ?_
      refine lv_iconst (v := 1) hx hb d_Mo_change_49 (by decide) ?_
      refine lv_iload_n hx hb d_Mo_change_50 rfl (lv_at hl 2 rfl) ?_
      refine lv_ishl hx hb d_Mo_change_51 ?_
      refine lv_ixor hx hb d_Mo_change_52 ?_
      refine va_iast hx hb hK hP hD hS 4 0 rfl rfl (iv_b h3 h29) d_Mo_change_53 (fun H locs hP hD hS => ?_)
      have hP : va_P D classes (W_Mo cI cL b0 b1 b2 b3 b4 b5 b6 b7 ev wr wg ke (upd ma (part - (64 : Int32)).toNatClampNeg ((ma (part - (64 : Int32)).toNatClampNeg) ^^^ ((1 : Int32) <<< (bit &&& 31)))) li ps pn cy ca va cn pp px go ne gi gn) H := hP
      have hD : va_D A (W_Mo cI cL b0 b1 b2 b3 b4 b5 b6 b7 ev wr wg ke (upd ma (part - (64 : Int32)).toNatClampNeg ((ma (part - (64 : Int32)).toNatClampNeg) ^^^ ((1 : Int32) <<< (bit &&& 31)))) li ps pn cy ca va cn pp px go ne gi gn) := hD
      refine lv_goto (tgt := 81) hx hb d_Mo_change_54 (by decide) ?_
      rw [f_Mo_change_e1 wg ma li part bit h3 h29]
      exact W.vret hx hb hr (fun t ht hW => ⟨⟨(), rfl, trivial, by show va_P D classes _ t.heap; rw [ht]; exact hP⟩, hS.F ht⟩) hS.2.2 d_Mo_change_81 hlocks
  · refine lv_aload_n hx hb d_Mo_change_6 rfl (lv_at hl 0 rfl) ?_
    refine va_get (ci := 5) (C := R_Mo) (T := F_Mo) (N := 18) hx hb hg in_Mo hown hK hP 0 rfl rfl 2 (by decide) (hg _ m_505) (fun _ h => h) rfl d_Mo_change_7 ?_
    refine lv_iload_n hx hb d_Mo_change_10 rfl (lv_at hl 1 rfl) ?_
    refine lv_aload_n hx hb d_Mo_change_11 rfl (lv_at hl 0 rfl) ?_
    refine va_get (ci := 5) (C := R_Mo) (T := F_Mo) (N := 18) hx hb hg in_Mo hown hK hP 0 rfl rfl 2 (by decide) (hg _ m_505) (fun _ h => h) rfl d_Mo_change_12 ?_
    refine lv_iload_n hx hb d_Mo_change_15 rfl (lv_at hl 1 rfl) ?_
    refine va_lald hx hb hK hP 2 1 rfl rfl (iv_a h_part h3) d_Mo_change_16 ?_
    refine lv_lconst (v := 1) hx hb d_Mo_change_17 (by decide) ?_
    refine lv_iload_n hx hb d_Mo_change_18 rfl (lv_at hl 2 rfl) ?_
    refine lv_lshl (v := u_lshl _ _) hx hb d_Mo_change_19 rfl ?_
    refine lv_lxor hx hb d_Mo_change_20 ?_
    refine va_last hx hb hK hP hD hS 2 1 rfl rfl (iv_a h_part h3) d_Mo_change_21 (fun H locs hP hD hS => ?_)
    have hP : va_P D classes (W_Mo cI cL b0 b1 b2 b3 b4 b5 b6 b7 ev wr (vp_updL wg part.toNatClampNeg ((wg part.toNatClampNeg) ^^^ (u_lshl (1 : Int64) bit))) ke ma li ps pn cy ca va cn pp px go ne gi gn) H := hP
    have hD : va_D A (W_Mo cI cL b0 b1 b2 b3 b4 b5 b6 b7 ev wr (vp_updL wg part.toNatClampNeg ((wg part.toNatClampNeg) ^^^ (u_lshl (1 : Int64) bit))) ke ma li ps pn cy ca va cn pp px go ne gi gn) := hD
    refine lv_goto (tgt := 81) hx hb d_Mo_change_22 (by decide) ?_
    rw [f_Mo_change_e2 wg ma li part bit h3]
    exact W.vret hx hb hr (fun t ht hW => ⟨⟨(), rfl, trivial, by show va_P D classes _ t.heap; rw [ht]; exact hP⟩, hS.F ht⟩) hS.2.2 d_Mo_change_81 hlocks
abbrev q_Mo_makeFaults (D : va_G) (cI cL : ClassId) (b0 b1 b2 b3 b4 b5 b6 b7 : Nat) (A : Nat → Prop) (ev : Int32) (wr : Nat → Int32) (wg : Nat → Int64) (ke : Nat → Int32) (ma : Nat → Int32) (li : Nat → Int64) (ps : Int32) (pn : Nat → Int32) (cy : Int32) (ca : Int32) (va : Int32) (cn : Nat → Int32) (pp : Int32) (px : Int32) (go : Int32) (ne : Int32) (gi : Int32) (gn : Int32) (F : (Nat → Int64) × (Nat → Int32) × (Nat → Int64) × Int32 × (Nat → Int32)) : Array Value → State → Outcome → State → Prop := va_Qv (fun (_ : Unit) => True) (fun _ t => va_P D classes (W_Mo cI cL b0 b1 b2 b3 b4 b5 b6 b7 ev wr F.1 ke F.2.1 F.2.2.1 F.2.2.2.1 F.2.2.2.2 cy ca va cn pp px go ne gi gn) t.heap) A
theorem f_Mo_makeFaults_e1 (cy : Int32) (n : Nat) (j : Nat) (le : Int32) (wg_ : Nat → Int64) (ma_ : Nat → Int32) (li_ : Nat → Int64) (pn_ : Nat → Int32)  (h24 : ¬ (pn_ ((3 : Int32) * (nI j)).toNatClampNeg) = cy) : f_Mo_makeFaults_l4 cy (n + 1) j le wg_ ma_ li_ pn_ = f_Mo_makeFaults_l4 cy n (j + 1) (le + 1) wg_ ma_ li_ (upd (upd (upd pn_ (((3 : Int32) * le) + (0 : Int32)).toNatClampNeg (pn_ (((3 : Int32) * (nI j)) + (0 : Int32)).toNatClampNeg)) (((3 : Int32) * le) + (1 : Int32)).toNatClampNeg ((upd pn_ (((3 : Int32) * le) + (0 : Int32)).toNatClampNeg (pn_ (((3 : Int32) * (nI j)) + (0 : Int32)).toNatClampNeg)) (((3 : Int32) * (nI j)) + (1 : Int32)).toNatClampNeg)) (((3 : Int32) * le) + (2 : Int32)).toNatClampNeg ((upd (upd pn_ (((3 : Int32) * le) + (0 : Int32)).toNatClampNeg (pn_ (((3 : Int32) * (nI j)) + (0 : Int32)).toNatClampNeg)) (((3 : Int32) * le) + (1 : Int32)).toNatClampNeg ((upd pn_ (((3 : Int32) * le) + (0 : Int32)).toNatClampNeg (pn_ (((3 : Int32) * (nI j)) + (0 : Int32)).toNatClampNeg)) (((3 : Int32) * (nI j)) + (1 : Int32)).toNatClampNeg)) (((3 : Int32) * (nI j)) + (2 : Int32)).toNatClampNeg)) := by
  exact (if_neg h24)
theorem f_Mo_makeFaults_e2 (cy : Int32) (n : Nat) (j : Nat) (le : Int32) (wg_ : Nat → Int64) (ma_ : Nat → Int32) (li_ : Nat → Int64) (pn_ : Nat → Int32) (t1 : (Nat → Int64) × (Nat → Int32) × (Nat → Int64)) (e_t1 : f_Mo_change wg_ ma_ li_ (pn_ (((3 : Int32) * (nI j)) + (1 : Int32)).toNatClampNeg) (pn_ (((3 : Int32) * (nI j)) + (2 : Int32)).toNatClampNeg) = t1) (h24 : (pn_ ((3 : Int32) * (nI j)).toNatClampNeg) = cy) : f_Mo_makeFaults_l4 cy (n + 1) j le wg_ ma_ li_ pn_ = f_Mo_makeFaults_l4 cy n (j + 1) le t1.1 t1.2.1 t1.2.2 pn_ := by
  subst e_t1
  exact (if_pos h24)
set_option maxHeartbeats 4000000 in
set_option maxRecDepth 100000 in
theorem c_Mo_makeFaults (l : Launch) (D : va_G) (cI cL : ClassId) (b0 b1 b2 b3 b4 b5 b6 b7 : Nat) (sz : Nat) (ev : Int32) (wr : Nat → Int32) (wg : Nat → Int64) (ke : Nat → Int32) (ma : Nat → Int32) (li : Nat → Int64) (ps : Int32) (pn : Nat → Int32) (cy : Int32) (ca : Int32) (va : Int32) (cn : Nat → Int32) (pp : Int32) (px : Int32) (go : Int32) (ne : Int32) (gi : Int32) (gn : Int32)  (h_ps : vp_in ps 17) (h_pp : ∀ k, k < ps.toNatClampNeg → vp_in (pn (3 * k + 1)) 168) : Met l y_Mo_makeFaults w_Mo_makeFaults ({ frames := 1, cells := 0, slots := 0, locals := 22 }) (va_Pc [.ref b0] (PW D cI cL (W_Mo cI cL b0 b1 b2 b3 b4 b5 b6 b7 ev wr wg ke ma li ps pn cy ca va cn pp px go ne gi gn) sz)) (q_Mo_makeFaults D cI cL b0 b1 b2 b3 b4 b5 b6 b7 (va_A (W_Mo cI cL b0 b1 b2 b3 b4 b5 b6 b7 ev wr wg ke ma li ps pn cy ca va cn pp px go ne gi gn) sz) ev wr wg ke ma li ps pn cy ca va cn pp px go ne gi gn (f_Mo_makeFaults wg ma li ps pn cy)) 0 0 (va_A (W_Mo cI cL b0 b1 b2 b3 b4 b5 b6 b7 ev wr wg ke ma li ps pn cy ca va cn pp px go ne gi gn) sz) := by
  refine mk_met (Qf := fun A => q_Mo_makeFaults D cI cL b0 b1 b2 b3 b4 b5 b6 b7 A ev wr wg ke ma li ps pn cy ca va cn pp px go ne gi gn (f_Mo_makeFaults wg ma li ps pn cy)) (by decide) (Nat.le_of_ble_eq_true rfl) ?_
  intro p e s m below meth c A ls hx hb hr hlocks hml hown hg hK hN hT hA hP hD hS hnm hl
  have h16 : ps.toNatClampNeg ≤ 16 := cl17 h_ps
  refine lv_iconst (v := 0) hx hb d_Mo_makeFaults_0 (by decide) ?_
  refine lv_istore_n (lv' := [(1, .int _), (0, .ref _)]) hx hb d_Mo_makeFaults_1 rfl hl (by decide) rfl (fun ls hl => ?_)
  refine lv_iconst (v := 0) hx hb d_Mo_makeFaults_2 (by decide) ?_
  refine lv_istore_n (lv' := [(2, .int _), (1, .int _), (0, .ref _)]) hx hb d_Mo_makeFaults_3 rfl hl (by decide) rfl (fun ls hl => ?_)
  have loop : ∀ (n j : Nat) (le : Int32) (wg_ : Nat → Int64) (ma_ : Nat → Int32) (li_ : Nat → Int64) (pn_ : Nat → Int32) (ls : Array Slot) (H : Heap) (locs : List Loc), j + n = ps.toNatClampNeg → (∃ q, le = nI q ∧ q ≤ j) → (∀ k, j ≤ k → k < ps.toNatClampNeg → vp_in (pn_ (3 * k + 1)) 168) → lv_has ls 4 [(2, .int (nI j)), (1, .int le), (0, .ref b0)] → va_P D classes (W_Mo cI cL b0 b1 b2 b3 b4 b5 b6 b7 ev wr wg_ ke ma_ li_ ps pn_ cy ca va cn pp px go ne gi gn) H → va_D A (W_Mo cI cL b0 b1 b2 b3 b4 b5 b6 b7 ev wr wg_ ke ma_ li_ ps pn_ cy ca va cn pp px go ne gi gn) → va_S A s.heap H locs → W p l e ({ frames := 1, cells := 0, slots := 0, locals := 22 } : Room) s m ([.ref b0] : List Value).toArray below meth c H locs 0 0 (MQ below (q_Mo_makeFaults D cI cL b0 b1 b2 b3 b4 b5 b6 b7 A ev wr wg ke ma li ps pn cy ca va cn pp px go ne gi gn (f_Mo_makeFaults_l4 cy n j le wg_ ma_ li_ pn_)) ([.ref b0] : List Value).toArray s 0 0 A) (F0 m 4 ls []) := by
    intro n
    induction n with
    | zero =>
      intro j le wg_ ma_ li_ pn_ ls H locs hj hle hpp hl hP hD hS
      refine lv_iload_n hx hb d_Mo_makeFaults_4 rfl (lv_at hl 0 rfl) ?_
      refine lv_aload_n hx hb d_Mo_makeFaults_5 rfl (lv_at hl 2 rfl) ?_
      refine va_get (ci := 5) (C := R_Mo) (T := F_Mo) (N := 18) hx hb hg in_Mo hown hK hP 0 rfl rfl 6 (by decide) (hg _ m_509) (fun _ h => h) rfl d_Mo_makeFaults_6 ?_
      refine lv_icmp_ge (tgt := 96) hx hb d_Mo_makeFaults_9 (by decide) (fun _ => ?_) (fun h => absurd (mp_z h_ps (by omega)) h)
      refine lv_aload_n hx hb d_Mo_makeFaults_96 rfl (lv_at hl 2 rfl) ?_
      refine lv_iload_n hx hb d_Mo_makeFaults_97 rfl (lv_at hl 1 rfl) ?_
      refine va_put (ci := 5) (ty := .int) (C := R_Mo) (T := F_Mo) (N := 18) hx hb hg in_Mo t_Mo t_Mo_ok n_Mo hown hK hP hD hS 0 rfl rfl 6 (by decide) (hg _ m_509) (fun _ h => h) rfl (by decide +kernel) rfl rfl (Nat.le_of_ble_eq_true rfl) d_Mo_makeFaults_98 (fun H locs hP hD hS => ?_)
      have hP : va_P D classes (W_Mo cI cL b0 b1 b2 b3 b4 b5 b6 b7 ev wr wg_ ke ma_ li_ le pn_ cy ca va cn pp px go ne gi gn) H := hP
      have hD : va_D A (W_Mo cI cL b0 b1 b2 b3 b4 b5 b6 b7 ev wr wg_ ke ma_ li_ le pn_ cy ca va cn pp px go ne gi gn) := hD
      exact W.vret hx hb hr (fun t ht hW => ⟨⟨(), rfl, trivial, by show va_P D classes _ t.heap; rw [ht]; exact hP⟩, hS.F ht⟩) hS.2.2 d_Mo_makeFaults_101 hlocks
    | succ n ih =>
      intro j le wg_ ma_ li_ pn_ ls H locs hj hle hpp hl hP hD hS
      refine lv_iload_n hx hb d_Mo_makeFaults_4 rfl (lv_at hl 0 rfl) ?_
      refine lv_aload_n hx hb d_Mo_makeFaults_5 rfl (lv_at hl 2 rfl) ?_
      refine va_get (ci := 5) (C := R_Mo) (T := F_Mo) (N := 18) hx hb hg in_Mo hown hK hP 0 rfl rfl 6 (by decide) (hg _ m_509) (fun _ h => h) rfl d_Mo_makeFaults_6 ?_
      refine lv_icmp_ge (tgt := 96) hx hb d_Mo_makeFaults_9 (by decide) (fun h => absurd h (mp_s h_ps (by omega))) (fun _ => ?_)
      refine lv_aload_n hx hb d_Mo_makeFaults_12 rfl (lv_at hl 2 rfl) ?_
      refine va_get (ci := 5) (C := R_Mo) (T := F_Mo) (N := 18) hx hb hg in_Mo hown hK hP 0 rfl rfl 7 (by decide) (hg _ m_510) (fun _ h => h) rfl d_Mo_makeFaults_13 ?_
      refine lv_iconst (v := 3) hx hb d_Mo_makeFaults_16 (by decide) ?_
      refine lv_iload_n hx hb d_Mo_makeFaults_17 rfl (lv_at hl 0 rfl) ?_
      refine lv_imul hx hb d_Mo_makeFaults_18 ?_
      refine va_iald hx hb hK hP 6 0 rfl rfl (p3__ (by omega)) d_Mo_makeFaults_19 ?_
      refine lv_aload_n hx hb d_Mo_makeFaults_20 rfl (lv_at hl 2 rfl) ?_
      refine va_get (ci := 5) (C := R_Mo) (T := F_Mo) (N := 18) hx hb hg in_Mo hown hK hP 0 rfl rfl 8 (by decide) (hg _ m_511) (fun _ h => h) rfl d_Mo_makeFaults_21 ?_
      refine lv_icmp_ne (tgt := 54) hx hb d_Mo_makeFaults_24 (by decide) (fun h24 => ?_) (fun h24 => ?_)
      · refine lv_iconst (v := 0) hx hb d_Mo_makeFaults_54 (by decide) ?_
        refine lv_istore_n (lv' := [(3, .int _), (2, .int _), (1, .int _), (0, .ref _)]) hx hb d_Mo_makeFaults_55 rfl hl (by decide) rfl (fun ls hl => ?_)
        refine lv_iload_n hx hb d_Mo_makeFaults_56 rfl (lv_at hl 0 rfl) ?_
        refine lv_iconst (v := 3) hx hb d_Mo_makeFaults_57 (by decide) ?_
        refine lv_icmp_ge (tgt := 87) hx hb d_Mo_makeFaults_58 (by decide) (fun h => absurd h (by decide)) (fun _ => ?_)
        refine lv_aload_n hx hb d_Mo_makeFaults_61 rfl (lv_at hl 3 rfl) ?_
        refine va_get (ci := 5) (C := R_Mo) (T := F_Mo) (N := 18) hx hb hg in_Mo hown hK hP 0 rfl rfl 7 (by decide) (hg _ m_510) (fun _ h => h) rfl d_Mo_makeFaults_62 ?_
        refine lv_iconst (v := 3) hx hb d_Mo_makeFaults_65 (by decide) ?_
        refine lv_iload_n hx hb d_Mo_makeFaults_66 rfl (lv_at hl 2 rfl) ?_
        refine lv_imul hx hb d_Mo_makeFaults_67 ?_
        refine lv_iload_n hx hb d_Mo_makeFaults_68 rfl (lv_at hl 0 rfl) ?_
        refine lv_iadd hx hb d_Mo_makeFaults_69 ?_
        refine lv_aload_n hx hb d_Mo_makeFaults_70 rfl (lv_at hl 3 rfl) ?_
        refine va_get (ci := 5) (C := R_Mo) (T := F_Mo) (N := 18) hx hb hg in_Mo hown hK hP 0 rfl rfl 7 (by decide) (hg _ m_510) (fun _ h => h) rfl d_Mo_makeFaults_71 ?_
        refine lv_iconst (v := 3) hx hb d_Mo_makeFaults_74 (by decide) ?_
        refine lv_iload_n hx hb d_Mo_makeFaults_75 rfl (lv_at hl 1 rfl) ?_
        refine lv_imul hx hb d_Mo_makeFaults_76 ?_
        refine lv_iload_n hx hb d_Mo_makeFaults_77 rfl (lv_at hl 0 rfl) ?_
        refine lv_iadd hx hb d_Mo_makeFaults_78 ?_
        refine va_iald hx hb hK hP 6 0 rfl rfl (p3_0 (by omega)) d_Mo_makeFaults_79 ?_
        refine va_iast hx hb hK hP hD hS 6 0 rfl rfl (p3_le0 hle (by omega)) d_Mo_makeFaults_80 (fun H locs hP hD hS => ?_)
        have hP : va_P D classes (W_Mo cI cL b0 b1 b2 b3 b4 b5 b6 b7 ev wr wg_ ke ma_ li_ ps (upd pn_ (((3 : Int32) * le) + (0 : Int32)).toNatClampNeg (pn_ (((3 : Int32) * (nI j)) + (0 : Int32)).toNatClampNeg)) cy ca va cn pp px go ne gi gn) H := hP
        have hD : va_D A (W_Mo cI cL b0 b1 b2 b3 b4 b5 b6 b7 ev wr wg_ ke ma_ li_ ps (upd pn_ (((3 : Int32) * le) + (0 : Int32)).toNatClampNeg (pn_ (((3 : Int32) * (nI j)) + (0 : Int32)).toNatClampNeg)) cy ca va cn pp px go ne gi gn) := hD
        refine lv_iinc (k := 0) (v := 1) (lv' := [(3, .int _), (2, .int _), (1, .int _), (0, .ref _)]) hx hb d_Mo_makeFaults_81 hl rfl (by decide) (by decide) rfl (fun ls hl => ?_)
        refine lv_goto (tgt := 56) hx hb d_Mo_makeFaults_84 (by decide) ?_
        refine lv_iload_n hx hb d_Mo_makeFaults_56 rfl (lv_at hl 0 rfl) ?_
        refine lv_iconst (v := 3) hx hb d_Mo_makeFaults_57 (by decide) ?_
        refine lv_icmp_ge (tgt := 87) hx hb d_Mo_makeFaults_58 (by decide) (fun h => absurd h (by decide)) (fun _ => ?_)
        refine lv_aload_n hx hb d_Mo_makeFaults_61 rfl (lv_at hl 3 rfl) ?_
        refine va_get (ci := 5) (C := R_Mo) (T := F_Mo) (N := 18) hx hb hg in_Mo hown hK hP 0 rfl rfl 7 (by decide) (hg _ m_510) (fun _ h => h) rfl d_Mo_makeFaults_62 ?_
        refine lv_iconst (v := 3) hx hb d_Mo_makeFaults_65 (by decide) ?_
        refine lv_iload_n hx hb d_Mo_makeFaults_66 rfl (lv_at hl 2 rfl) ?_
        refine lv_imul hx hb d_Mo_makeFaults_67 ?_
        refine lv_iload_n hx hb d_Mo_makeFaults_68 rfl (lv_at hl 0 rfl) ?_
        refine lv_iadd hx hb d_Mo_makeFaults_69 ?_
        refine lv_aload_n hx hb d_Mo_makeFaults_70 rfl (lv_at hl 3 rfl) ?_
        refine va_get (ci := 5) (C := R_Mo) (T := F_Mo) (N := 18) hx hb hg in_Mo hown hK hP 0 rfl rfl 7 (by decide) (hg _ m_510) (fun _ h => h) rfl d_Mo_makeFaults_71 ?_
        refine lv_iconst (v := 3) hx hb d_Mo_makeFaults_74 (by decide) ?_
        refine lv_iload_n hx hb d_Mo_makeFaults_75 rfl (lv_at hl 1 rfl) ?_
        refine lv_imul hx hb d_Mo_makeFaults_76 ?_
        refine lv_iload_n hx hb d_Mo_makeFaults_77 rfl (lv_at hl 0 rfl) ?_
        refine lv_iadd hx hb d_Mo_makeFaults_78 ?_
        refine va_iald hx hb hK hP 6 0 rfl rfl (p3_1 (by omega)) d_Mo_makeFaults_79 ?_
        refine va_iast hx hb hK hP hD hS 6 0 rfl rfl (p3_le1 hle (by omega)) d_Mo_makeFaults_80 (fun H locs hP hD hS => ?_)
        have hP : va_P D classes (W_Mo cI cL b0 b1 b2 b3 b4 b5 b6 b7 ev wr wg_ ke ma_ li_ ps (upd (upd pn_ (((3 : Int32) * le) + (0 : Int32)).toNatClampNeg (pn_ (((3 : Int32) * (nI j)) + (0 : Int32)).toNatClampNeg)) (((3 : Int32) * le) + (1 : Int32)).toNatClampNeg ((upd pn_ (((3 : Int32) * le) + (0 : Int32)).toNatClampNeg (pn_ (((3 : Int32) * (nI j)) + (0 : Int32)).toNatClampNeg)) (((3 : Int32) * (nI j)) + (1 : Int32)).toNatClampNeg)) cy ca va cn pp px go ne gi gn) H := hP
        have hD : va_D A (W_Mo cI cL b0 b1 b2 b3 b4 b5 b6 b7 ev wr wg_ ke ma_ li_ ps (upd (upd pn_ (((3 : Int32) * le) + (0 : Int32)).toNatClampNeg (pn_ (((3 : Int32) * (nI j)) + (0 : Int32)).toNatClampNeg)) (((3 : Int32) * le) + (1 : Int32)).toNatClampNeg ((upd pn_ (((3 : Int32) * le) + (0 : Int32)).toNatClampNeg (pn_ (((3 : Int32) * (nI j)) + (0 : Int32)).toNatClampNeg)) (((3 : Int32) * (nI j)) + (1 : Int32)).toNatClampNeg)) cy ca va cn pp px go ne gi gn) := hD
        refine lv_iinc (k := 0) (v := 2) (lv' := [(3, .int _), (2, .int _), (1, .int _), (0, .ref _)]) hx hb d_Mo_makeFaults_81 hl rfl (by decide) (by decide) rfl (fun ls hl => ?_)
        refine lv_goto (tgt := 56) hx hb d_Mo_makeFaults_84 (by decide) ?_
        refine lv_iload_n hx hb d_Mo_makeFaults_56 rfl (lv_at hl 0 rfl) ?_
        refine lv_iconst (v := 3) hx hb d_Mo_makeFaults_57 (by decide) ?_
        refine lv_icmp_ge (tgt := 87) hx hb d_Mo_makeFaults_58 (by decide) (fun h => absurd h (by decide)) (fun _ => ?_)
        refine lv_aload_n hx hb d_Mo_makeFaults_61 rfl (lv_at hl 3 rfl) ?_
        refine va_get (ci := 5) (C := R_Mo) (T := F_Mo) (N := 18) hx hb hg in_Mo hown hK hP 0 rfl rfl 7 (by decide) (hg _ m_510) (fun _ h => h) rfl d_Mo_makeFaults_62 ?_
        refine lv_iconst (v := 3) hx hb d_Mo_makeFaults_65 (by decide) ?_
        refine lv_iload_n hx hb d_Mo_makeFaults_66 rfl (lv_at hl 2 rfl) ?_
        refine lv_imul hx hb d_Mo_makeFaults_67 ?_
        refine lv_iload_n hx hb d_Mo_makeFaults_68 rfl (lv_at hl 0 rfl) ?_
        refine lv_iadd hx hb d_Mo_makeFaults_69 ?_
        refine lv_aload_n hx hb d_Mo_makeFaults_70 rfl (lv_at hl 3 rfl) ?_
        refine va_get (ci := 5) (C := R_Mo) (T := F_Mo) (N := 18) hx hb hg in_Mo hown hK hP 0 rfl rfl 7 (by decide) (hg _ m_510) (fun _ h => h) rfl d_Mo_makeFaults_71 ?_
        refine lv_iconst (v := 3) hx hb d_Mo_makeFaults_74 (by decide) ?_
        refine lv_iload_n hx hb d_Mo_makeFaults_75 rfl (lv_at hl 1 rfl) ?_
        refine lv_imul hx hb d_Mo_makeFaults_76 ?_
        refine lv_iload_n hx hb d_Mo_makeFaults_77 rfl (lv_at hl 0 rfl) ?_
        refine lv_iadd hx hb d_Mo_makeFaults_78 ?_
        refine va_iald hx hb hK hP 6 0 rfl rfl (p3_2 (by omega)) d_Mo_makeFaults_79 ?_
        refine va_iast hx hb hK hP hD hS 6 0 rfl rfl (p3_le2 hle (by omega)) d_Mo_makeFaults_80 (fun H locs hP hD hS => ?_)
        have hP : va_P D classes (W_Mo cI cL b0 b1 b2 b3 b4 b5 b6 b7 ev wr wg_ ke ma_ li_ ps (upd (upd (upd pn_ (((3 : Int32) * le) + (0 : Int32)).toNatClampNeg (pn_ (((3 : Int32) * (nI j)) + (0 : Int32)).toNatClampNeg)) (((3 : Int32) * le) + (1 : Int32)).toNatClampNeg ((upd pn_ (((3 : Int32) * le) + (0 : Int32)).toNatClampNeg (pn_ (((3 : Int32) * (nI j)) + (0 : Int32)).toNatClampNeg)) (((3 : Int32) * (nI j)) + (1 : Int32)).toNatClampNeg)) (((3 : Int32) * le) + (2 : Int32)).toNatClampNeg ((upd (upd pn_ (((3 : Int32) * le) + (0 : Int32)).toNatClampNeg (pn_ (((3 : Int32) * (nI j)) + (0 : Int32)).toNatClampNeg)) (((3 : Int32) * le) + (1 : Int32)).toNatClampNeg ((upd pn_ (((3 : Int32) * le) + (0 : Int32)).toNatClampNeg (pn_ (((3 : Int32) * (nI j)) + (0 : Int32)).toNatClampNeg)) (((3 : Int32) * (nI j)) + (1 : Int32)).toNatClampNeg)) (((3 : Int32) * (nI j)) + (2 : Int32)).toNatClampNeg)) cy ca va cn pp px go ne gi gn) H := hP
        have hD : va_D A (W_Mo cI cL b0 b1 b2 b3 b4 b5 b6 b7 ev wr wg_ ke ma_ li_ ps (upd (upd (upd pn_ (((3 : Int32) * le) + (0 : Int32)).toNatClampNeg (pn_ (((3 : Int32) * (nI j)) + (0 : Int32)).toNatClampNeg)) (((3 : Int32) * le) + (1 : Int32)).toNatClampNeg ((upd pn_ (((3 : Int32) * le) + (0 : Int32)).toNatClampNeg (pn_ (((3 : Int32) * (nI j)) + (0 : Int32)).toNatClampNeg)) (((3 : Int32) * (nI j)) + (1 : Int32)).toNatClampNeg)) (((3 : Int32) * le) + (2 : Int32)).toNatClampNeg ((upd (upd pn_ (((3 : Int32) * le) + (0 : Int32)).toNatClampNeg (pn_ (((3 : Int32) * (nI j)) + (0 : Int32)).toNatClampNeg)) (((3 : Int32) * le) + (1 : Int32)).toNatClampNeg ((upd pn_ (((3 : Int32) * le) + (0 : Int32)).toNatClampNeg (pn_ (((3 : Int32) * (nI j)) + (0 : Int32)).toNatClampNeg)) (((3 : Int32) * (nI j)) + (1 : Int32)).toNatClampNeg)) (((3 : Int32) * (nI j)) + (2 : Int32)).toNatClampNeg)) cy ca va cn pp px go ne gi gn) := hD
        refine lv_iinc (k := 0) (v := 3) (lv' := [(3, .int _), (2, .int _), (1, .int _), (0, .ref _)]) hx hb d_Mo_makeFaults_81 hl rfl (by decide) (by decide) rfl (fun ls hl => ?_)
        refine lv_goto (tgt := 56) hx hb d_Mo_makeFaults_84 (by decide) ?_
        refine lv_iload_n hx hb d_Mo_makeFaults_56 rfl (lv_at hl 0 rfl) ?_
        refine lv_iconst (v := 3) hx hb d_Mo_makeFaults_57 (by decide) ?_
        refine lv_icmp_ge (tgt := 87) hx hb d_Mo_makeFaults_58 (by decide) (fun _ => ?_) (fun h => absurd (by decide) h)
        refine lv_iinc (k := 2) (v := _ + 1) (lv' := [(1, .int _), (3, .int _), (2, .int _), (0, .ref _)]) hx hb d_Mo_makeFaults_87 hl rfl rfl (by decide) rfl (fun ls hl => ?_)
        refine lv_iinc (k := 2) (v := nI (_ + 1)) (lv' := [(2, .int _), (1, .int _), (3, .int _), (0, .ref _)]) hx hb d_Mo_makeFaults_90 hl rfl (nI_1 _) (by decide) rfl (fun ls hl => ?_)
        refine lv_goto (tgt := 4) hx hb d_Mo_makeFaults_93 (by decide) ?_
        rw [f_Mo_makeFaults_e1 cy (n) j le wg_ ma_ li_ pn_ h24]
        exact ih (j + 1) _ _ _ _ _ _ _ _ (by omega) (by obtain ⟨q, e, h⟩ := hle; first | exact ⟨q, e, by omega⟩ | exact ⟨q + 1, by rw [e]; exact nI_1 q, by omega⟩) (by first | exact fun k h1 h2 => hpp k (by omega) h2 | exact fun k h1 h2 => p3_keep hle (by omega) h1 (by omega) (hpp k (by omega) h2)) (lv_sub hl [0, 1, 3] rfl) hP hD hS
      · refine lv_aload_n hx hb d_Mo_makeFaults_27 rfl (lv_at hl 2 rfl) ?_
        refine lv_aload_n hx hb d_Mo_makeFaults_28 rfl (lv_at hl 2 rfl) ?_
        refine va_get (ci := 5) (C := R_Mo) (T := F_Mo) (N := 18) hx hb hg in_Mo hown hK hP 0 rfl rfl 7 (by decide) (hg _ m_510) (fun _ h => h) rfl d_Mo_makeFaults_29 ?_
        refine lv_iconst (v := 3) hx hb d_Mo_makeFaults_32 (by decide) ?_
        refine lv_iload_n hx hb d_Mo_makeFaults_33 rfl (lv_at hl 0 rfl) ?_
        refine lv_imul hx hb d_Mo_makeFaults_34 ?_
        refine lv_iconst (v := 1) hx hb d_Mo_makeFaults_35 (by decide) ?_
        refine lv_iadd hx hb d_Mo_makeFaults_36 ?_
        refine va_iald hx hb hK hP 6 0 rfl rfl (p3_1 (by omega)) d_Mo_makeFaults_37 ?_
        refine lv_aload_n hx hb d_Mo_makeFaults_38 rfl (lv_at hl 2 rfl) ?_
        refine va_get (ci := 5) (C := R_Mo) (T := F_Mo) (N := 18) hx hb hg in_Mo hown hK hP 0 rfl rfl 7 (by decide) (hg _ m_510) (fun _ h => h) rfl d_Mo_makeFaults_39 ?_
        refine lv_iconst (v := 3) hx hb d_Mo_makeFaults_42 (by decide) ?_
        refine lv_iload_n hx hb d_Mo_makeFaults_43 rfl (lv_at hl 0 rfl) ?_
        refine lv_imul hx hb d_Mo_makeFaults_44 ?_
        refine lv_iconst (v := 2) hx hb d_Mo_makeFaults_45 (by decide) ?_
        refine lv_iadd hx hb d_Mo_makeFaults_46 ?_
        refine va_iald hx hb hK hP 6 0 rfl rfl (p3_2 (by omega)) d_Mo_makeFaults_47 ?_
        have hq48 : vp_in (pn_ ((3 : Int32) * nI j + (1 : Int32)).toNatClampNeg) 168 := by rw [p3_cl (by omega)]; exact hpp j (Nat.le_refl _) (by omega)
        refine cj_v (wc := (W_Mo cI cL b0 b1 b2 b3 b4 b5 b6 b7 ev wr wg_ ke ma_ li_ ps pn_ cy ca va cn pp px go ne gi gn)) (w1 := (W_Mo cI cL b0 b1 b2 b3 b4 b5 b6 b7 ev wr ((f_Mo_change wg_ ma_ li_ (pn_ (((3 : Int32) * (nI j)) + (1 : Int32)).toNatClampNeg) (pn_ (((3 : Int32) * (nI j)) + (2 : Int32)).toNatClampNeg)).1) ke ((f_Mo_change wg_ ma_ li_ (pn_ (((3 : Int32) * (nI j)) + (1 : Int32)).toNatClampNeg) (pn_ (((3 : Int32) * (nI j)) + (2 : Int32)).toNatClampNeg)).2.1) ((f_Mo_change wg_ ma_ li_ (pn_ (((3 : Int32) * (nI j)) + (1 : Int32)).toNatClampNeg) (pn_ (((3 : Int32) * (nI j)) + (2 : Int32)).toNatClampNeg)).2.2) ps pn_ cy ca va cn pp px go ne gi gn)) hP hD hS hA [0, 1, 2, 3, 4, 5, 6, 7] rfl [b0, b1, b2, b3, b4, b5, b6, b7] rfl rfl (va_runV (rest := []) ⟨hx, hb, hml, hown, hg⟩ (c_Mo_change l D cI cL b0 b1 b2 b3 b4 b5 b6 b7 _ ev wr wg_ ke ma_ li_ ps pn_ cy ca va cn pp px go ne gi gn (pn_ (((3 : Int32) * (nI j)) + (1 : Int32)).toNatClampNeg) (pn_ (((3 : Int32) * (nI j)) + (2 : Int32)).toNatClampNeg) hq48) ⟨callB_of 2 hg (gw_good m_572) rfl rfl rfl (hg _ m_71) (hg _ m_569) hd_Mo_change ⟨Nat.le_of_ble_eq_true rfl, Nat.le_of_ble_eq_true rfl⟩, hg _ m_571, hg _ m_35⟩ (pw_V hK hN hT hA hP hD hS [0, 1, 2, 3, 4, 5, 6, 7] rfl (by decide) (q0 := 0) (ci := 5) rfl rfl) rfl rfl hl.1 rfl (lv_room (Nat.le_of_ble_eq_true rfl)) d_Mo_makeFaults_48 ⟨Nat.le_of_ble_eq_true rfl, Nat.le_of_ble_eq_true rfl⟩) (fun H locs hP hD hS => ?_)
        have hP : va_P D classes (W_Mo cI cL b0 b1 b2 b3 b4 b5 b6 b7 ev wr ((f_Mo_change wg_ ma_ li_ (pn_ (((3 : Int32) * (nI j)) + (1 : Int32)).toNatClampNeg) (pn_ (((3 : Int32) * (nI j)) + (2 : Int32)).toNatClampNeg)).1) ke ((f_Mo_change wg_ ma_ li_ (pn_ (((3 : Int32) * (nI j)) + (1 : Int32)).toNatClampNeg) (pn_ (((3 : Int32) * (nI j)) + (2 : Int32)).toNatClampNeg)).2.1) ((f_Mo_change wg_ ma_ li_ (pn_ (((3 : Int32) * (nI j)) + (1 : Int32)).toNatClampNeg) (pn_ (((3 : Int32) * (nI j)) + (2 : Int32)).toNatClampNeg)).2.2) ps pn_ cy ca va cn pp px go ne gi gn) H := hP
        have hD : va_D A (W_Mo cI cL b0 b1 b2 b3 b4 b5 b6 b7 ev wr ((f_Mo_change wg_ ma_ li_ (pn_ (((3 : Int32) * (nI j)) + (1 : Int32)).toNatClampNeg) (pn_ (((3 : Int32) * (nI j)) + (2 : Int32)).toNatClampNeg)).1) ke ((f_Mo_change wg_ ma_ li_ (pn_ (((3 : Int32) * (nI j)) + (1 : Int32)).toNatClampNeg) (pn_ (((3 : Int32) * (nI j)) + (2 : Int32)).toNatClampNeg)).2.1) ((f_Mo_change wg_ ma_ li_ (pn_ (((3 : Int32) * (nI j)) + (1 : Int32)).toNatClampNeg) (pn_ (((3 : Int32) * (nI j)) + (2 : Int32)).toNatClampNeg)).2.2) ps pn_ cy ca va cn pp px go ne gi gn) := hD
        generalize e_t1 : f_Mo_change wg_ ma_ li_ (pn_ (((3 : Int32) * (nI j)) + (1 : Int32)).toNatClampNeg) (pn_ (((3 : Int32) * (nI j)) + (2 : Int32)).toNatClampNeg) = t1 at hP hD ⊢
        refine lv_goto (tgt := 90) hx hb d_Mo_makeFaults_51 (by decide) ?_
        refine lv_iinc (k := 0) (v := nI (_ + 1)) (lv' := [(2, .int _), (1, .int _), (0, .ref _)]) hx hb d_Mo_makeFaults_90 hl rfl (nI_1 _) (by decide) rfl (fun ls hl => ?_)
        refine lv_goto (tgt := 4) hx hb d_Mo_makeFaults_93 (by decide) ?_
        rw [f_Mo_makeFaults_e2 cy (n) j le wg_ ma_ li_ pn_ t1 e_t1 h24]
        exact ih (j + 1) _ _ _ _ _ _ _ _ (by omega) (by obtain ⟨q, e, h⟩ := hle; first | exact ⟨q, e, by omega⟩ | exact ⟨q + 1, by rw [e]; exact nI_1 q, by omega⟩) (by first | exact fun k h1 h2 => hpp k (by omega) h2 | exact fun k h1 h2 => p3_keep hle (by omega) h1 (by omega) (hpp k (by omega) h2)) (lv_sub hl [0, 1, 2] rfl) hP hD hS
  exact loop ps.toNatClampNeg 0 _ _ _ _ _ _ _ _ (by omega) ⟨0, rfl, Nat.le_refl _⟩ (fun k _ h => h_pp k h) hl hP hD hS
abbrev q_Mo_scrub (D : va_G) (cI cL : ClassId) (b0 b1 b2 b3 b4 b5 b6 b7 : Nat) (A : Nat → Prop) (ev : Int32) (wr : Nat → Int32) (wg : Nat → Int64) (ke : Nat → Int32) (ma : Nat → Int32) (li : Nat → Int64) (ps : Int32) (pn : Nat → Int32) (cy : Int32) (ca : Int32) (va : Int32) (cn : Nat → Int32) (pp : Int32) (px : Int32) (go : Int32) (ne : Int32) (gi : Int32) (gn : Int32) (F : (Nat → Int64) × (Nat → Int32)) : Array Value → State → Outcome → State → Prop := va_Qv (fun (_ : Unit) => True) (fun _ t => va_P D classes (W_Mo cI cL b0 b1 b2 b3 b4 b5 b6 b7 ev wr F.1 ke ma li ps pn cy ca va F.2 pp px go ne gi gn) t.heap) A
theorem f_Mo_scrub_e0 (wg : Nat → Int64) (cn : Nat → Int32) (t1 : Int32 × (Nat → Int64) × (Nat → Int32)) (e_t1 : f_Mo_mend wg cn (cn (5 : Int32).toNatClampNeg) = t1) (h10 : ¬ t1.1 = 0) : f_Mo_scrub wg cn = (t1.2.1, (upd t1.2.2 (5 : Int32).toNatClampNeg (u_rem ((t1.2.2 (5 : Int32).toNatClampNeg) + (1 : Int32)) (64 : Int32)))) := by
  subst e_t1
  exact (if_neg h10)
theorem f_Mo_scrub_e1 (wg : Nat → Int64) (cn : Nat → Int32) (t1 : Int32 × (Nat → Int64) × (Nat → Int32)) (e_t1 : f_Mo_mend wg cn (cn (5 : Int32).toNatClampNeg) = t1) (h10 : t1.1 = 0) : f_Mo_scrub wg cn = (t1.2.1, (upd (upd t1.2.2 (1 : Int32).toNatClampNeg ((t1.2.2 (1 : Int32).toNatClampNeg) + (1 : Int32))) (5 : Int32).toNatClampNeg (u_rem (((upd t1.2.2 (1 : Int32).toNatClampNeg ((t1.2.2 (1 : Int32).toNatClampNeg) + (1 : Int32))) (5 : Int32).toNatClampNeg) + (1 : Int32)) (64 : Int32)))) := by
  subst e_t1
  exact (if_pos h10)
set_option maxHeartbeats 4000000 in
set_option maxRecDepth 100000 in
theorem c_Mo_scrub (l : Launch) (D : va_G) (cI cL : ClassId) (b0 b1 b2 b3 b4 b5 b6 b7 : Nat) (sz : Nat) (ev : Int32) (wr : Nat → Int32) (wg : Nat → Int64) (ke : Nat → Int32) (ma : Nat → Int32) (li : Nat → Int64) (ps : Int32) (pn : Nat → Int32) (cy : Int32) (ca : Int32) (va : Int32) (cn : Nat → Int32) (pp : Int32) (px : Int32) (go : Int32) (ne : Int32) (gi : Int32) (gn : Int32)  (h_sp : vp_in (cn 5) 64) : Met l y_Mo_scrub w_Mo_scrub ({ frames := 3, cells := 0, slots := 0, locals := 67 }) (va_Pc [.ref b0] (PW D cI cL (W_Mo cI cL b0 b1 b2 b3 b4 b5 b6 b7 ev wr wg ke ma li ps pn cy ca va cn pp px go ne gi gn) sz)) (q_Mo_scrub D cI cL b0 b1 b2 b3 b4 b5 b6 b7 (va_A (W_Mo cI cL b0 b1 b2 b3 b4 b5 b6 b7 ev wr wg ke ma li ps pn cy ca va cn pp px go ne gi gn) sz) ev wr wg ke ma li ps pn cy ca va cn pp px go ne gi gn (f_Mo_scrub wg cn)) 0 0 (va_A (W_Mo cI cL b0 b1 b2 b3 b4 b5 b6 b7 ev wr wg ke ma li ps pn cy ca va cn pp px go ne gi gn) sz) := by
  refine mk_met (Qf := fun A => q_Mo_scrub D cI cL b0 b1 b2 b3 b4 b5 b6 b7 A ev wr wg ke ma li ps pn cy ca va cn pp px go ne gi gn (f_Mo_scrub wg cn)) (by decide) (Nat.le_of_ble_eq_true rfl) ?_
  intro p e s m below meth c A ls hx hb hr hlocks hml hown hg hK hN hT hA hP hD hS hnm hl
  refine lv_aload_n hx hb d_Mo_scrub_0 rfl (lv_at hl 0 rfl) ?_
  refine lv_aload_n hx hb d_Mo_scrub_1 rfl (lv_at hl 0 rfl) ?_
  refine va_get (ci := 5) (C := R_Mo) (T := F_Mo) (N := 18) hx hb hg in_Mo hown hK hP 0 rfl rfl 11 (by decide) (hg _ m_514) (fun _ h => h) rfl d_Mo_scrub_2 ?_
  refine lv_iconst (v := 5) hx hb d_Mo_scrub_5 (by decide) ?_
  refine va_iald hx hb hK hP 7 0 rfl rfl (vp_ofb (by decide)) d_Mo_scrub_6 ?_
  refine cj_i (wc := (W_Mo cI cL b0 b1 b2 b3 b4 b5 b6 b7 ev wr wg ke ma li ps pn cy ca va cn pp px go ne gi gn)) (w1 := (W_Mo cI cL b0 b1 b2 b3 b4 b5 b6 b7 ev wr ((f_Mo_mend wg cn (cn (5 : Int32).toNatClampNeg)).2.1) ke ma li ps pn cy ca va ((f_Mo_mend wg cn (cn (5 : Int32).toNatClampNeg)).2.2) pp px go ne gi gn)) hP hD hS hA [0, 1, 2, 3, 4, 5, 6, 7] rfl [b0, b1, b2, b3, b4, b5, b6, b7] rfl rfl (va_runV (rest := []) ⟨hx, hb, hml, hown, hg⟩ (c_Mo_mend l D cI cL b0 b1 b2 b3 b4 b5 b6 b7 _ ev wr wg ke ma li ps pn cy ca va cn pp px go ne gi gn (cn (5 : Int32).toNatClampNeg) h_sp) ⟨callB_of 1 hg (gw_good m_611) rfl rfl rfl (hg _ m_71) (hg _ m_608) hd_Mo_mend ⟨Nat.le_of_ble_eq_true rfl, Nat.le_of_ble_eq_true rfl⟩, hg _ m_610, hg _ m_43⟩ (pw_V hK hN hT hA hP hD hS [0, 1, 2, 3, 4, 5, 6, 7] rfl (by decide) (q0 := 0) (ci := 5) rfl rfl) rfl rfl hl.1 rfl (lv_room (Nat.le_of_ble_eq_true rfl)) d_Mo_scrub_7 ⟨Nat.le_of_ble_eq_true rfl, Nat.le_of_ble_eq_true rfl⟩) (fun H locs hP hD hS => ?_)
  have hP : va_P D classes (W_Mo cI cL b0 b1 b2 b3 b4 b5 b6 b7 ev wr ((f_Mo_mend wg cn (cn (5 : Int32).toNatClampNeg)).2.1) ke ma li ps pn cy ca va ((f_Mo_mend wg cn (cn (5 : Int32).toNatClampNeg)).2.2) pp px go ne gi gn) H := hP
  have hD : va_D A (W_Mo cI cL b0 b1 b2 b3 b4 b5 b6 b7 ev wr ((f_Mo_mend wg cn (cn (5 : Int32).toNatClampNeg)).2.1) ke ma li ps pn cy ca va ((f_Mo_mend wg cn (cn (5 : Int32).toNatClampNeg)).2.2) pp px go ne gi gn) := hD
  generalize e_t1 : f_Mo_mend wg cn (cn (5 : Int32).toNatClampNeg) = t1 at hP hD ⊢
  refine lv_if_ne (tgt := 23) hx hb d_Mo_scrub_10 (by decide) (fun h10 => ?_) (fun h10 => ?_)
  · refine lv_aload_n hx hb d_Mo_scrub_23 rfl (lv_at hl 0 rfl) ?_
    refine va_get (ci := 5) (C := R_Mo) (T := F_Mo) (N := 18) hx hb hg in_Mo hown hK hP 0 rfl rfl 11 (by decide) (hg _ m_514) (fun _ h => h) rfl d_Mo_scrub_24 ?_
    refine lv_iconst (v := 5) hx hb d_Mo_scrub_27 (by decide) ?_
    refine lv_aload_n hx hb d_Mo_scrub_28 rfl (lv_at hl 0 rfl) ?_
    refine va_get (ci := 5) (C := R_Mo) (T := F_Mo) (N := 18) hx hb hg in_Mo hown hK hP 0 rfl rfl 11 (by decide) (hg _ m_514) (fun _ h => h) rfl d_Mo_scrub_29 ?_
    refine lv_iconst (v := 5) hx hb d_Mo_scrub_32 (by decide) ?_
    refine va_iald hx hb hK hP 7 0 rfl rfl (vp_ofb (by decide)) d_Mo_scrub_33 ?_
    refine lv_iconst (v := 1) hx hb d_Mo_scrub_34 (by decide) ?_
    refine lv_iadd hx hb d_Mo_scrub_35 ?_
    refine lv_bipush (v := 64) hx hb d_Mo_scrub_36 (by decide) ?_
    refine lv_irem hx hb d_Mo_scrub_38 (by decide) ?_
    refine va_iast hx hb hK hP hD hS 7 0 rfl rfl (vp_ofb (by decide)) d_Mo_scrub_39 (fun H locs hP hD hS => ?_)
    have hP : va_P D classes (W_Mo cI cL b0 b1 b2 b3 b4 b5 b6 b7 ev wr t1.2.1 ke ma li ps pn cy ca va (upd t1.2.2 (5 : Int32).toNatClampNeg (u_rem ((t1.2.2 (5 : Int32).toNatClampNeg) + (1 : Int32)) (64 : Int32))) pp px go ne gi gn) H := hP
    have hD : va_D A (W_Mo cI cL b0 b1 b2 b3 b4 b5 b6 b7 ev wr t1.2.1 ke ma li ps pn cy ca va (upd t1.2.2 (5 : Int32).toNatClampNeg (u_rem ((t1.2.2 (5 : Int32).toNatClampNeg) + (1 : Int32)) (64 : Int32))) pp px go ne gi gn) := hD
    rw [f_Mo_scrub_e0 wg cn t1 e_t1 h10]
    exact W.vret hx hb hr (fun t ht hW => ⟨⟨(), rfl, trivial, by show va_P D classes _ t.heap; rw [ht]; exact hP⟩, hS.F ht⟩) hS.2.2 d_Mo_scrub_40 hlocks
  · refine lv_aload_n hx hb d_Mo_scrub_13 rfl (lv_at hl 0 rfl) ?_
    refine va_get (ci := 5) (C := R_Mo) (T := F_Mo) (N := 18) hx hb hg in_Mo hown hK hP 0 rfl rfl 11 (by decide) (hg _ m_514) (fun _ h => h) rfl d_Mo_scrub_14 ?_
    refine lv_iconst (v := 1) hx hb d_Mo_scrub_17 (by decide) ?_
    refine lv_dup2_11 hx hb d_Mo_scrub_18 rfl rfl ?_
    refine va_iald hx hb hK hP 7 0 rfl rfl (vp_ofb (by decide)) d_Mo_scrub_19 ?_
    refine lv_iconst (v := 1) hx hb d_Mo_scrub_20 (by decide) ?_
    refine lv_iadd hx hb d_Mo_scrub_21 ?_
    refine va_iast hx hb hK hP hD hS 7 0 rfl rfl (vp_ofb (by decide)) d_Mo_scrub_22 (fun H locs hP hD hS => ?_)
    have hP : va_P D classes (W_Mo cI cL b0 b1 b2 b3 b4 b5 b6 b7 ev wr t1.2.1 ke ma li ps pn cy ca va (upd t1.2.2 (1 : Int32).toNatClampNeg ((t1.2.2 (1 : Int32).toNatClampNeg) + (1 : Int32))) pp px go ne gi gn) H := hP
    have hD : va_D A (W_Mo cI cL b0 b1 b2 b3 b4 b5 b6 b7 ev wr t1.2.1 ke ma li ps pn cy ca va (upd t1.2.2 (1 : Int32).toNatClampNeg ((t1.2.2 (1 : Int32).toNatClampNeg) + (1 : Int32))) pp px go ne gi gn) := hD
    refine lv_aload_n hx hb d_Mo_scrub_23 rfl (lv_at hl 0 rfl) ?_
    refine va_get (ci := 5) (C := R_Mo) (T := F_Mo) (N := 18) hx hb hg in_Mo hown hK hP 0 rfl rfl 11 (by decide) (hg _ m_514) (fun _ h => h) rfl d_Mo_scrub_24 ?_
    refine lv_iconst (v := 5) hx hb d_Mo_scrub_27 (by decide) ?_
    refine lv_aload_n hx hb d_Mo_scrub_28 rfl (lv_at hl 0 rfl) ?_
    refine va_get (ci := 5) (C := R_Mo) (T := F_Mo) (N := 18) hx hb hg in_Mo hown hK hP 0 rfl rfl 11 (by decide) (hg _ m_514) (fun _ h => h) rfl d_Mo_scrub_29 ?_
    refine lv_iconst (v := 5) hx hb d_Mo_scrub_32 (by decide) ?_
    refine va_iald hx hb hK hP 7 0 rfl rfl (vp_ofb (by decide)) d_Mo_scrub_33 ?_
    refine lv_iconst (v := 1) hx hb d_Mo_scrub_34 (by decide) ?_
    refine lv_iadd hx hb d_Mo_scrub_35 ?_
    refine lv_bipush (v := 64) hx hb d_Mo_scrub_36 (by decide) ?_
    refine lv_irem hx hb d_Mo_scrub_38 (by decide) ?_
    refine va_iast hx hb hK hP hD hS 7 0 rfl rfl (vp_ofb (by decide)) d_Mo_scrub_39 (fun H locs hP hD hS => ?_)
    have hP : va_P D classes (W_Mo cI cL b0 b1 b2 b3 b4 b5 b6 b7 ev wr t1.2.1 ke ma li ps pn cy ca va (upd (upd t1.2.2 (1 : Int32).toNatClampNeg ((t1.2.2 (1 : Int32).toNatClampNeg) + (1 : Int32))) (5 : Int32).toNatClampNeg (u_rem (((upd t1.2.2 (1 : Int32).toNatClampNeg ((t1.2.2 (1 : Int32).toNatClampNeg) + (1 : Int32))) (5 : Int32).toNatClampNeg) + (1 : Int32)) (64 : Int32))) pp px go ne gi gn) H := hP
    have hD : va_D A (W_Mo cI cL b0 b1 b2 b3 b4 b5 b6 b7 ev wr t1.2.1 ke ma li ps pn cy ca va (upd (upd t1.2.2 (1 : Int32).toNatClampNeg ((t1.2.2 (1 : Int32).toNatClampNeg) + (1 : Int32))) (5 : Int32).toNatClampNeg (u_rem (((upd t1.2.2 (1 : Int32).toNatClampNeg ((t1.2.2 (1 : Int32).toNatClampNeg) + (1 : Int32))) (5 : Int32).toNatClampNeg) + (1 : Int32)) (64 : Int32))) pp px go ne gi gn) := hD
    rw [f_Mo_scrub_e1 wg cn t1 e_t1 h10]
    exact W.vret hx hb hr (fun t ht hW => ⟨⟨(), rfl, trivial, by show va_P D classes _ t.heap; rw [ht]; exact hP⟩, hS.F ht⟩) hS.2.2 d_Mo_scrub_40 hlocks
