abbrev q_Mo_load (D : va_G) (cI cL : ClassId) (b0 b1 b2 b3 b4 b5 b6 b7 : Nat) (A : Nat → Prop) (ev : Int32) (wr : Nat → Int32) (wg : Nat → Int64) (ke : Nat → Int32) (ma : Nat → Int32) (li : Nat → Int64) (ps : Int32) (pn : Nat → Int32) (cy : Int32) (ca : Int32) (va : Int32) (cn : Nat → Int32) (pp : Int32) (px : Int32) (go : Int32) (ne : Int32) (gi : Int32) (gn : Int32) (F : (Nat → Int64) × (Nat → Int64) × Int32 × Int32 × (Nat → Int32) × Int32 × Int32 × Int32) : Array Value → State → Outcome → State → Prop := va_Qv (fun (_ : Unit) => True) (fun _ t => va_P D classes (W_Mo cI cL b0 b1 b2 b3 b4 b5 b6 b7 ev wr F.1 ke ma F.2.1 ps pn cy F.2.2.1 F.2.2.2.1 F.2.2.2.2.1 pp px F.2.2.2.2.2.1 ne F.2.2.2.2.2.2.1 F.2.2.2.2.2.2.2) t.heap) A
theorem f_Mo_load_e0 (wr : Nat → Int32) (wg : Nat → Int64) (li : Nat → Int64) (ca : Int32) (va : Int32) (cn : Nat → Int32) (px : Int32) (go : Int32) (gi : Int32) (gn : Int32) (f : Int32) (a : Int32) (t1 : Int32 × Int32) (e_t1 : f_Mo_illegal ca va px = t1) (h3 : ¬ (u_rem f (4 : Int32)) = 0) (h14 : ¬ (u_rem f (4 : Int32)) = (1 : Int32)) (h25 : f = (3 : Int32)) : f_Mo_load wr wg li ca va cn px go gi gn f a = (wg, li, t1.1, t1.2, cn, go, gi, gn) := by
  subst e_t1
  exact ((if_neg h3).trans ((if_neg h14).trans (if_pos h25)))
theorem f_Mo_load_e1 (wr : Nat → Int32) (wg : Nat → Int64) (li : Nat → Int64) (ca : Int32) (va : Int32) (cn : Nat → Int32) (px : Int32) (go : Int32) (gi : Int32) (gn : Int32) (f : Int32) (a : Int32) (t2 : Int32 × Int32 × Int32) (e_t2 : f_Mo_reaches ca va a (4 : Int32) = t2) (h3 : ¬ (u_rem f (4 : Int32)) = 0) (h14 : ¬ (u_rem f (4 : Int32)) = (1 : Int32)) (h25 : ¬ f = (3 : Int32)) (h30 : f ≤ (5 : Int32)) (h46 : t2.1 = 0) : f_Mo_load wr wg li ca va cn px go gi gn f a = (wg, li, t2.2.1, t2.2.2, cn, go, gi, gn) := by
  subst e_t2
  exact ((if_neg h3).trans ((if_neg h14).trans ((if_neg h25).trans ((if_pos h30).trans (if_pos h46)))))
theorem f_Mo_load_e2 (wr : Nat → Int32) (wg : Nat → Int64) (li : Nat → Int64) (ca : Int32) (va : Int32) (cn : Nat → Int32) (px : Int32) (go : Int32) (gi : Int32) (gn : Int32) (f : Int32) (a : Int32) (t2 : Int32 × Int32 × Int32) (t3 : Int32 × (Nat → Int64) × (Nat → Int64) × Int32 × Int32 × (Nat → Int32) × Int32) (e_t2 : f_Mo_reaches ca va a (4 : Int32) = t2) (e_t3 : f_Mo_fetch wr wg li t2.2.1 t2.2.2 cn go (1 : Int32) (a / (4 : Int32)) = t3) (h3 : ¬ (u_rem f (4 : Int32)) = 0) (h14 : ¬ (u_rem f (4 : Int32)) = (1 : Int32)) (h25 : ¬ f = (3 : Int32)) (h30 : f ≤ (5 : Int32)) (h46 : ¬ t2.1 = 0) (h57 : t3.1 = 0) : f_Mo_load wr wg li ca va cn px go gi gn f a = (t3.2.1, t3.2.2.1, t3.2.2.2.1, t3.2.2.2.2.1, t3.2.2.2.2.2.1, t3.2.2.2.2.2.2, gi, gn) := by
  subst e_t3
  subst e_t2
  exact ((if_neg h3).trans ((if_neg h14).trans ((if_neg h25).trans ((if_pos h30).trans ((if_neg h46).trans (if_pos h57))))))
theorem f_Mo_load_e3 (wr : Nat → Int32) (wg : Nat → Int64) (li : Nat → Int64) (ca : Int32) (va : Int32) (cn : Nat → Int32) (px : Int32) (go : Int32) (gi : Int32) (gn : Int32) (f : Int32) (a : Int32) (t2 : Int32 × Int32 × Int32) (t3 : Int32 × (Nat → Int64) × (Nat → Int64) × Int32 × Int32 × (Nat → Int32) × Int32) (t4 : Int32) (t5 : Int32 × Int32) (e_t2 : f_Mo_reaches ca va a (4 : Int32) = t2) (e_t3 : f_Mo_fetch wr wg li t2.2.1 t2.2.2 cn go (1 : Int32) (a / (4 : Int32)) = t3) (e_t4 : ((t3.2.2.2.2.2.2 >>> (((8 : Int32) * (u_rem a (4 : Int32))) &&& 31)) <<< (((32 : Int32) - ((8 : Int32) * (4 : Int32))) &&& 31)) = t4) (e_t5 : f_Mo_give gi gn (u_ush t4 ((32 : Int32) - ((8 : Int32) * (4 : Int32)))) = t5) (h3 : ¬ (u_rem f (4 : Int32)) = 0) (h14 : ¬ (u_rem f (4 : Int32)) = (1 : Int32)) (h25 : ¬ f = (3 : Int32)) (h30 : f ≤ (5 : Int32)) (h46 : ¬ t2.1 = 0) (h57 : ¬ t3.1 = 0) (h88 : (4 : Int32) ≤ f) : f_Mo_load wr wg li ca va cn px go gi gn f a = (t3.2.1, t3.2.2.1, t3.2.2.2.1, t3.2.2.2.2.1, t3.2.2.2.2.2.1, t3.2.2.2.2.2.2, t5.1, t5.2) := by
  subst e_t5
  subst e_t4
  subst e_t3
  subst e_t2
  exact ((if_neg h3).trans ((if_neg h14).trans ((if_neg h25).trans ((if_pos h30).trans ((if_neg h46).trans ((if_neg h57).trans (if_pos h88)))))))
theorem f_Mo_load_e4 (wr : Nat → Int32) (wg : Nat → Int64) (li : Nat → Int64) (ca : Int32) (va : Int32) (cn : Nat → Int32) (px : Int32) (go : Int32) (gi : Int32) (gn : Int32) (f : Int32) (a : Int32) (t2 : Int32 × Int32 × Int32) (t3 : Int32 × (Nat → Int64) × (Nat → Int64) × Int32 × Int32 × (Nat → Int32) × Int32) (t4 : Int32) (t6 : Int32 × Int32) (e_t2 : f_Mo_reaches ca va a (4 : Int32) = t2) (e_t3 : f_Mo_fetch wr wg li t2.2.1 t2.2.2 cn go (1 : Int32) (a / (4 : Int32)) = t3) (e_t4 : ((t3.2.2.2.2.2.2 >>> (((8 : Int32) * (u_rem a (4 : Int32))) &&& 31)) <<< (((32 : Int32) - ((8 : Int32) * (4 : Int32))) &&& 31)) = t4) (e_t6 : f_Mo_give gi gn (t4 >>> (((32 : Int32) - ((8 : Int32) * (4 : Int32))) &&& 31)) = t6) (h3 : ¬ (u_rem f (4 : Int32)) = 0) (h14 : ¬ (u_rem f (4 : Int32)) = (1 : Int32)) (h25 : ¬ f = (3 : Int32)) (h30 : f ≤ (5 : Int32)) (h46 : ¬ t2.1 = 0) (h57 : ¬ t3.1 = 0) (h88 : ¬ (4 : Int32) ≤ f) : f_Mo_load wr wg li ca va cn px go gi gn f a = (t3.2.1, t3.2.2.1, t3.2.2.2.1, t3.2.2.2.2.1, t3.2.2.2.2.2.1, t3.2.2.2.2.2.2, t6.1, t6.2) := by
  subst e_t6
  subst e_t4
  subst e_t3
  subst e_t2
  exact ((if_neg h3).trans ((if_neg h14).trans ((if_neg h25).trans ((if_pos h30).trans ((if_neg h46).trans ((if_neg h57).trans (if_neg h88)))))))
theorem f_Mo_load_e5 (wr : Nat → Int32) (wg : Nat → Int64) (li : Nat → Int64) (ca : Int32) (va : Int32) (cn : Nat → Int32) (px : Int32) (go : Int32) (gi : Int32) (gn : Int32) (f : Int32) (a : Int32) (t7 : Int32 × Int32) (e_t7 : f_Mo_illegal ca va px = t7) (h3 : ¬ (u_rem f (4 : Int32)) = 0) (h14 : ¬ (u_rem f (4 : Int32)) = (1 : Int32)) (h25 : ¬ f = (3 : Int32)) (h30 : ¬ f ≤ (5 : Int32)) : f_Mo_load wr wg li ca va cn px go gi gn f a = (wg, li, t7.1, t7.2, cn, go, gi, gn) := by
  subst e_t7
  exact ((if_neg h3).trans ((if_neg h14).trans ((if_neg h25).trans (if_neg h30))))
theorem f_Mo_load_e6 (wr : Nat → Int32) (wg : Nat → Int64) (li : Nat → Int64) (ca : Int32) (va : Int32) (cn : Nat → Int32) (px : Int32) (go : Int32) (gi : Int32) (gn : Int32) (f : Int32) (a : Int32) (t8 : Int32 × Int32) (e_t8 : f_Mo_illegal ca va px = t8) (h3 : ¬ (u_rem f (4 : Int32)) = 0) (h14 : (u_rem f (4 : Int32)) = (1 : Int32)) (h25 : f = (3 : Int32)) : f_Mo_load wr wg li ca va cn px go gi gn f a = (wg, li, t8.1, t8.2, cn, go, gi, gn) := by
  subst e_t8
  exact ((if_neg h3).trans ((if_pos h14).trans (if_pos h25)))
theorem f_Mo_load_e7 (wr : Nat → Int32) (wg : Nat → Int64) (li : Nat → Int64) (ca : Int32) (va : Int32) (cn : Nat → Int32) (px : Int32) (go : Int32) (gi : Int32) (gn : Int32) (f : Int32) (a : Int32) (t9 : Int32 × Int32 × Int32) (e_t9 : f_Mo_reaches ca va a (2 : Int32) = t9) (h3 : ¬ (u_rem f (4 : Int32)) = 0) (h14 : (u_rem f (4 : Int32)) = (1 : Int32)) (h25 : ¬ f = (3 : Int32)) (h30 : f ≤ (5 : Int32)) (h46 : t9.1 = 0) : f_Mo_load wr wg li ca va cn px go gi gn f a = (wg, li, t9.2.1, t9.2.2, cn, go, gi, gn) := by
  subst e_t9
  exact ((if_neg h3).trans ((if_pos h14).trans ((if_neg h25).trans ((if_pos h30).trans (if_pos h46)))))
theorem f_Mo_load_e8 (wr : Nat → Int32) (wg : Nat → Int64) (li : Nat → Int64) (ca : Int32) (va : Int32) (cn : Nat → Int32) (px : Int32) (go : Int32) (gi : Int32) (gn : Int32) (f : Int32) (a : Int32) (t9 : Int32 × Int32 × Int32) (t10 : Int32 × (Nat → Int64) × (Nat → Int64) × Int32 × Int32 × (Nat → Int32) × Int32) (e_t9 : f_Mo_reaches ca va a (2 : Int32) = t9) (e_t10 : f_Mo_fetch wr wg li t9.2.1 t9.2.2 cn go (1 : Int32) (a / (4 : Int32)) = t10) (h3 : ¬ (u_rem f (4 : Int32)) = 0) (h14 : (u_rem f (4 : Int32)) = (1 : Int32)) (h25 : ¬ f = (3 : Int32)) (h30 : f ≤ (5 : Int32)) (h46 : ¬ t9.1 = 0) (h57 : t10.1 = 0) : f_Mo_load wr wg li ca va cn px go gi gn f a = (t10.2.1, t10.2.2.1, t10.2.2.2.1, t10.2.2.2.2.1, t10.2.2.2.2.2.1, t10.2.2.2.2.2.2, gi, gn) := by
  subst e_t10
  subst e_t9
  exact ((if_neg h3).trans ((if_pos h14).trans ((if_neg h25).trans ((if_pos h30).trans ((if_neg h46).trans (if_pos h57))))))
theorem f_Mo_load_e9 (wr : Nat → Int32) (wg : Nat → Int64) (li : Nat → Int64) (ca : Int32) (va : Int32) (cn : Nat → Int32) (px : Int32) (go : Int32) (gi : Int32) (gn : Int32) (f : Int32) (a : Int32) (t9 : Int32 × Int32 × Int32) (t10 : Int32 × (Nat → Int64) × (Nat → Int64) × Int32 × Int32 × (Nat → Int32) × Int32) (t11 : Int32) (t12 : Int32 × Int32) (e_t9 : f_Mo_reaches ca va a (2 : Int32) = t9) (e_t10 : f_Mo_fetch wr wg li t9.2.1 t9.2.2 cn go (1 : Int32) (a / (4 : Int32)) = t10) (e_t11 : ((t10.2.2.2.2.2.2 >>> (((8 : Int32) * (u_rem a (4 : Int32))) &&& 31)) <<< (((32 : Int32) - ((8 : Int32) * (2 : Int32))) &&& 31)) = t11) (e_t12 : f_Mo_give gi gn (u_ush t11 ((32 : Int32) - ((8 : Int32) * (2 : Int32)))) = t12) (h3 : ¬ (u_rem f (4 : Int32)) = 0) (h14 : (u_rem f (4 : Int32)) = (1 : Int32)) (h25 : ¬ f = (3 : Int32)) (h30 : f ≤ (5 : Int32)) (h46 : ¬ t9.1 = 0) (h57 : ¬ t10.1 = 0) (h88 : (4 : Int32) ≤ f) : f_Mo_load wr wg li ca va cn px go gi gn f a = (t10.2.1, t10.2.2.1, t10.2.2.2.1, t10.2.2.2.2.1, t10.2.2.2.2.2.1, t10.2.2.2.2.2.2, t12.1, t12.2) := by
  subst e_t12
  subst e_t11
  subst e_t10
  subst e_t9
  exact ((if_neg h3).trans ((if_pos h14).trans ((if_neg h25).trans ((if_pos h30).trans ((if_neg h46).trans ((if_neg h57).trans (if_pos h88)))))))
theorem f_Mo_load_e10 (wr : Nat → Int32) (wg : Nat → Int64) (li : Nat → Int64) (ca : Int32) (va : Int32) (cn : Nat → Int32) (px : Int32) (go : Int32) (gi : Int32) (gn : Int32) (f : Int32) (a : Int32) (t9 : Int32 × Int32 × Int32) (t10 : Int32 × (Nat → Int64) × (Nat → Int64) × Int32 × Int32 × (Nat → Int32) × Int32) (t11 : Int32) (t13 : Int32 × Int32) (e_t9 : f_Mo_reaches ca va a (2 : Int32) = t9) (e_t10 : f_Mo_fetch wr wg li t9.2.1 t9.2.2 cn go (1 : Int32) (a / (4 : Int32)) = t10) (e_t11 : ((t10.2.2.2.2.2.2 >>> (((8 : Int32) * (u_rem a (4 : Int32))) &&& 31)) <<< (((32 : Int32) - ((8 : Int32) * (2 : Int32))) &&& 31)) = t11) (e_t13 : f_Mo_give gi gn (t11 >>> (((32 : Int32) - ((8 : Int32) * (2 : Int32))) &&& 31)) = t13) (h3 : ¬ (u_rem f (4 : Int32)) = 0) (h14 : (u_rem f (4 : Int32)) = (1 : Int32)) (h25 : ¬ f = (3 : Int32)) (h30 : f ≤ (5 : Int32)) (h46 : ¬ t9.1 = 0) (h57 : ¬ t10.1 = 0) (h88 : ¬ (4 : Int32) ≤ f) : f_Mo_load wr wg li ca va cn px go gi gn f a = (t10.2.1, t10.2.2.1, t10.2.2.2.1, t10.2.2.2.2.1, t10.2.2.2.2.2.1, t10.2.2.2.2.2.2, t13.1, t13.2) := by
  subst e_t13
  subst e_t11
  subst e_t10
  subst e_t9
  exact ((if_neg h3).trans ((if_pos h14).trans ((if_neg h25).trans ((if_pos h30).trans ((if_neg h46).trans ((if_neg h57).trans (if_neg h88)))))))
theorem f_Mo_load_e11 (wr : Nat → Int32) (wg : Nat → Int64) (li : Nat → Int64) (ca : Int32) (va : Int32) (cn : Nat → Int32) (px : Int32) (go : Int32) (gi : Int32) (gn : Int32) (f : Int32) (a : Int32) (t14 : Int32 × Int32) (e_t14 : f_Mo_illegal ca va px = t14) (h3 : ¬ (u_rem f (4 : Int32)) = 0) (h14 : (u_rem f (4 : Int32)) = (1 : Int32)) (h25 : ¬ f = (3 : Int32)) (h30 : ¬ f ≤ (5 : Int32)) : f_Mo_load wr wg li ca va cn px go gi gn f a = (wg, li, t14.1, t14.2, cn, go, gi, gn) := by
  subst e_t14
  exact ((if_neg h3).trans ((if_pos h14).trans ((if_neg h25).trans (if_neg h30))))
theorem f_Mo_load_e12 (wr : Nat → Int32) (wg : Nat → Int64) (li : Nat → Int64) (ca : Int32) (va : Int32) (cn : Nat → Int32) (px : Int32) (go : Int32) (gi : Int32) (gn : Int32) (f : Int32) (a : Int32) (t15 : Int32 × Int32) (e_t15 : f_Mo_illegal ca va px = t15) (h3 : (u_rem f (4 : Int32)) = 0) (h25 : f = (3 : Int32)) : f_Mo_load wr wg li ca va cn px go gi gn f a = (wg, li, t15.1, t15.2, cn, go, gi, gn) := by
  subst e_t15
  exact ((if_pos h3).trans (if_pos h25))
theorem f_Mo_load_e13 (wr : Nat → Int32) (wg : Nat → Int64) (li : Nat → Int64) (ca : Int32) (va : Int32) (cn : Nat → Int32) (px : Int32) (go : Int32) (gi : Int32) (gn : Int32) (f : Int32) (a : Int32) (t16 : Int32 × Int32 × Int32) (e_t16 : f_Mo_reaches ca va a (1 : Int32) = t16) (h3 : (u_rem f (4 : Int32)) = 0) (h25 : ¬ f = (3 : Int32)) (h30 : f ≤ (5 : Int32)) (h46 : t16.1 = 0) : f_Mo_load wr wg li ca va cn px go gi gn f a = (wg, li, t16.2.1, t16.2.2, cn, go, gi, gn) := by
  subst e_t16
  exact ((if_pos h3).trans ((if_neg h25).trans ((if_pos h30).trans (if_pos h46))))
theorem f_Mo_load_e14 (wr : Nat → Int32) (wg : Nat → Int64) (li : Nat → Int64) (ca : Int32) (va : Int32) (cn : Nat → Int32) (px : Int32) (go : Int32) (gi : Int32) (gn : Int32) (f : Int32) (a : Int32) (t16 : Int32 × Int32 × Int32) (t17 : Int32 × (Nat → Int64) × (Nat → Int64) × Int32 × Int32 × (Nat → Int32) × Int32) (e_t16 : f_Mo_reaches ca va a (1 : Int32) = t16) (e_t17 : f_Mo_fetch wr wg li t16.2.1 t16.2.2 cn go (1 : Int32) (a / (4 : Int32)) = t17) (h3 : (u_rem f (4 : Int32)) = 0) (h25 : ¬ f = (3 : Int32)) (h30 : f ≤ (5 : Int32)) (h46 : ¬ t16.1 = 0) (h57 : t17.1 = 0) : f_Mo_load wr wg li ca va cn px go gi gn f a = (t17.2.1, t17.2.2.1, t17.2.2.2.1, t17.2.2.2.2.1, t17.2.2.2.2.2.1, t17.2.2.2.2.2.2, gi, gn) := by
  subst e_t17
  subst e_t16
  exact ((if_pos h3).trans ((if_neg h25).trans ((if_pos h30).trans ((if_neg h46).trans (if_pos h57)))))
theorem f_Mo_load_e15 (wr : Nat → Int32) (wg : Nat → Int64) (li : Nat → Int64) (ca : Int32) (va : Int32) (cn : Nat → Int32) (px : Int32) (go : Int32) (gi : Int32) (gn : Int32) (f : Int32) (a : Int32) (t16 : Int32 × Int32 × Int32) (t17 : Int32 × (Nat → Int64) × (Nat → Int64) × Int32 × Int32 × (Nat → Int32) × Int32) (t18 : Int32) (t19 : Int32 × Int32) (e_t16 : f_Mo_reaches ca va a (1 : Int32) = t16) (e_t17 : f_Mo_fetch wr wg li t16.2.1 t16.2.2 cn go (1 : Int32) (a / (4 : Int32)) = t17) (e_t18 : ((t17.2.2.2.2.2.2 >>> (((8 : Int32) * (u_rem a (4 : Int32))) &&& 31)) <<< (((32 : Int32) - ((8 : Int32) * (1 : Int32))) &&& 31)) = t18) (e_t19 : f_Mo_give gi gn (u_ush t18 ((32 : Int32) - ((8 : Int32) * (1 : Int32)))) = t19) (h3 : (u_rem f (4 : Int32)) = 0) (h25 : ¬ f = (3 : Int32)) (h30 : f ≤ (5 : Int32)) (h46 : ¬ t16.1 = 0) (h57 : ¬ t17.1 = 0) (h88 : (4 : Int32) ≤ f) : f_Mo_load wr wg li ca va cn px go gi gn f a = (t17.2.1, t17.2.2.1, t17.2.2.2.1, t17.2.2.2.2.1, t17.2.2.2.2.2.1, t17.2.2.2.2.2.2, t19.1, t19.2) := by
  subst e_t19
  subst e_t18
  subst e_t17
  subst e_t16
  exact ((if_pos h3).trans ((if_neg h25).trans ((if_pos h30).trans ((if_neg h46).trans ((if_neg h57).trans (if_pos h88))))))
theorem f_Mo_load_e16 (wr : Nat → Int32) (wg : Nat → Int64) (li : Nat → Int64) (ca : Int32) (va : Int32) (cn : Nat → Int32) (px : Int32) (go : Int32) (gi : Int32) (gn : Int32) (f : Int32) (a : Int32) (t16 : Int32 × Int32 × Int32) (t17 : Int32 × (Nat → Int64) × (Nat → Int64) × Int32 × Int32 × (Nat → Int32) × Int32) (t18 : Int32) (t20 : Int32 × Int32) (e_t16 : f_Mo_reaches ca va a (1 : Int32) = t16) (e_t17 : f_Mo_fetch wr wg li t16.2.1 t16.2.2 cn go (1 : Int32) (a / (4 : Int32)) = t17) (e_t18 : ((t17.2.2.2.2.2.2 >>> (((8 : Int32) * (u_rem a (4 : Int32))) &&& 31)) <<< (((32 : Int32) - ((8 : Int32) * (1 : Int32))) &&& 31)) = t18) (e_t20 : f_Mo_give gi gn (t18 >>> (((32 : Int32) - ((8 : Int32) * (1 : Int32))) &&& 31)) = t20) (h3 : (u_rem f (4 : Int32)) = 0) (h25 : ¬ f = (3 : Int32)) (h30 : f ≤ (5 : Int32)) (h46 : ¬ t16.1 = 0) (h57 : ¬ t17.1 = 0) (h88 : ¬ (4 : Int32) ≤ f) : f_Mo_load wr wg li ca va cn px go gi gn f a = (t17.2.1, t17.2.2.1, t17.2.2.2.1, t17.2.2.2.2.1, t17.2.2.2.2.2.1, t17.2.2.2.2.2.2, t20.1, t20.2) := by
  subst e_t20
  subst e_t18
  subst e_t17
  subst e_t16
  exact ((if_pos h3).trans ((if_neg h25).trans ((if_pos h30).trans ((if_neg h46).trans ((if_neg h57).trans (if_neg h88))))))
theorem f_Mo_load_e17 (wr : Nat → Int32) (wg : Nat → Int64) (li : Nat → Int64) (ca : Int32) (va : Int32) (cn : Nat → Int32) (px : Int32) (go : Int32) (gi : Int32) (gn : Int32) (f : Int32) (a : Int32) (t21 : Int32 × Int32) (e_t21 : f_Mo_illegal ca va px = t21) (h3 : (u_rem f (4 : Int32)) = 0) (h25 : ¬ f = (3 : Int32)) (h30 : ¬ f ≤ (5 : Int32)) : f_Mo_load wr wg li ca va cn px go gi gn f a = (wg, li, t21.1, t21.2, cn, go, gi, gn) := by
  subst e_t21
  exact ((if_pos h3).trans ((if_neg h25).trans (if_neg h30)))
set_option maxHeartbeats 4000000 in
set_option maxRecDepth 100000 in
theorem c_Mo_load (l : Launch) (D : va_G) (cI cL : ClassId) (b0 b1 b2 b3 b4 b5 b6 b7 : Nat) (sz : Nat) (ev : Int32) (wr : Nat → Int32) (wg : Nat → Int64) (ke : Nat → Int32) (ma : Nat → Int32) (li : Nat → Int64) (ps : Int32) (pn : Nat → Int32) (cy : Int32) (ca : Int32) (va : Int32) (cn : Nat → Int32) (pp : Int32) (px : Int32) (go : Int32) (ne : Int32) (gi : Int32) (gn : Int32) (f : Int32) (a : Int32)  : Met l y_Mo_load w_Mo_load ({ frames := 4, cells := 0, slots := 0, locals := 90 }) (va_Pc [.ref b0, .int f, .int a] (PW D cI cL (W_Mo cI cL b0 b1 b2 b3 b4 b5 b6 b7 ev wr wg ke ma li ps pn cy ca va cn pp px go ne gi gn) sz)) (q_Mo_load D cI cL b0 b1 b2 b3 b4 b5 b6 b7 (va_A (W_Mo cI cL b0 b1 b2 b3 b4 b5 b6 b7 ev wr wg ke ma li ps pn cy ca va cn pp px go ne gi gn) sz) ev wr wg ke ma li ps pn cy ca va cn pp px go ne gi gn (f_Mo_load wr wg li ca va cn px go gi gn f a)) 0 0 (va_A (W_Mo cI cL b0 b1 b2 b3 b4 b5 b6 b7 ev wr wg ke ma li ps pn cy ca va cn pp px go ne gi gn) sz) := by
  refine mk_met (Qf := fun A => q_Mo_load D cI cL b0 b1 b2 b3 b4 b5 b6 b7 A ev wr wg ke ma li ps pn cy ca va cn pp px go ne gi gn (f_Mo_load wr wg li ca va cn px go gi gn f a)) (by decide) (Nat.le_of_ble_eq_true rfl) ?_
  intro p e s m below meth c A ls hx hb hr hlocks hml hown hg hK hN hT hA hP hD hS hnm hl
  refine lv_iload_n hx hb d_Mo_load_0 rfl (lv_at hl 1 rfl) ?_
  refine lv_iconst (v := 4) hx hb d_Mo_load_1 (by decide) ?_
  refine lv_irem hx hb d_Mo_load_2 (by decide) ?_
  refine lv_if_ne (tgt := 10) hx hb d_Mo_load_3 (by decide) (fun h3 => ?_) (fun h3 => ?_)
  · refine lv_iload_n hx hb d_Mo_load_10 rfl (lv_at hl 1 rfl) ?_
    refine lv_iconst (v := 4) hx hb d_Mo_load_11 (by decide) ?_
    refine lv_irem hx hb d_Mo_load_12 (by decide) ?_
    refine lv_iconst (v := 1) hx hb d_Mo_load_13 (by decide) ?_
    refine lv_icmp_ne (tgt := 21) hx hb d_Mo_load_14 (by decide) (fun h14 => ?_) (fun h14 => ?_)
    · refine lv_iconst (v := 4) hx hb d_Mo_load_21 (by decide) ?_
      refine lv_istore_n (lv' := [(3, .int _), (0, .ref _), (1, .int _), (2, .int _)]) hx hb d_Mo_load_22 rfl hl (by decide) rfl (fun ls hl => ?_)
      refine lv_iload_n hx hb d_Mo_load_23 rfl (lv_at hl 2 rfl) ?_
      refine lv_iconst (v := 3) hx hb d_Mo_load_24 (by decide) ?_
      refine lv_icmp_eq (tgt := 33) hx hb d_Mo_load_25 (by decide) (fun h25 => ?_) (fun h25 => ?_)
      · refine lv_aload_n hx hb d_Mo_load_33 rfl (lv_at hl 1 rfl) ?_
        refine cj_v (wc := (W_Mo cI cL b0 b1 b2 b3 b4 b5 b6 b7 ev wr wg ke ma li ps pn cy ca va cn pp px go ne gi gn)) (w1 := (W_Mo cI cL b0 b1 b2 b3 b4 b5 b6 b7 ev wr wg ke ma li ps pn cy ((f_Mo_illegal ca va px).1) ((f_Mo_illegal ca va px).2) cn pp px go ne gi gn)) hP hD hS hA [0, 1, 2, 3, 4, 5, 6, 7] rfl [b0, b1, b2, b3, b4, b5, b6, b7] rfl rfl (va_runV (rest := []) ⟨hx, hb, hml, hown, hg⟩ (c_Mo_illegal l D cI cL b0 b1 b2 b3 b4 b5 b6 b7 _ ev wr wg ke ma li ps pn cy ca va cn pp px go ne gi gn) ⟨callB_of 0 hg (gw_good m_661) rfl rfl rfl (hg _ m_71) (hg _ m_658) hd_Mo_illegal ⟨Nat.le_of_ble_eq_true rfl, Nat.le_of_ble_eq_true rfl⟩, hg _ m_660, hg _ m_51⟩ (pw_V hK hN hT hA hP hD hS [0, 1, 2, 3, 4, 5, 6, 7] rfl (by decide) (q0 := 0) (ci := 5) rfl rfl) rfl rfl hl.1 rfl (lv_room (Nat.le_of_ble_eq_true rfl)) d_Mo_load_34 ⟨Nat.le_of_ble_eq_true rfl, Nat.le_of_ble_eq_true rfl⟩) (fun H locs hP hD hS => ?_)
        have hP : va_P D classes (W_Mo cI cL b0 b1 b2 b3 b4 b5 b6 b7 ev wr wg ke ma li ps pn cy ((f_Mo_illegal ca va px).1) ((f_Mo_illegal ca va px).2) cn pp px go ne gi gn) H := hP
        have hD : va_D A (W_Mo cI cL b0 b1 b2 b3 b4 b5 b6 b7 ev wr wg ke ma li ps pn cy ((f_Mo_illegal ca va px).1) ((f_Mo_illegal ca va px).2) cn pp px go ne gi gn) := hD
        generalize e_t1 : f_Mo_illegal ca va px = t1 at hP hD ⊢
        obtain ⟨t1_0, t1_1⟩ := t1
        have hP : va_P D classes (W_Mo cI cL b0 b1 b2 b3 b4 b5 b6 b7 ev wr wg ke ma li ps pn cy t1_0 t1_1 cn pp px go ne gi gn) H := hP
        have hD : va_D A (W_Mo cI cL b0 b1 b2 b3 b4 b5 b6 b7 ev wr wg ke ma li ps pn cy t1_0 t1_1 cn pp px go ne gi gn) := hD
        refine lv_goto (tgt := 107) hx hb d_Mo_load_37 (by decide) ?_
        rw [f_Mo_load_e0 wr wg li ca va cn px go gi gn f a (t1_0, t1_1) e_t1 h3 h14 h25]
        exact W.vret hx hb hr (fun t ht hW => ⟨⟨(), rfl, trivial, by show va_P D classes _ t.heap; rw [ht]; exact hP⟩, hS.F ht⟩) hS.2.2 d_Mo_load_107 hlocks
      · refine lv_iload_n hx hb d_Mo_load_28 rfl (lv_at hl 2 rfl) ?_
        refine lv_iconst (v := 5) hx hb d_Mo_load_29 (by decide) ?_
        refine lv_icmp_le (tgt := 40) hx hb d_Mo_load_30 (by decide) (fun h30 => ?_) (fun h30 => ?_)
        · refine lv_aload_n hx hb d_Mo_load_40 rfl (lv_at hl 1 rfl) ?_
          refine lv_iload_n hx hb d_Mo_load_41 rfl (lv_at hl 3 rfl) ?_
          refine lv_iload_n hx hb d_Mo_load_42 rfl (lv_at hl 0 rfl) ?_
          refine cj_i (wc := (W_Mo cI cL b0 b1 b2 b3 b4 b5 b6 b7 ev wr wg ke ma li ps pn cy ca va cn pp px go ne gi gn)) (w1 := (W_Mo cI cL b0 b1 b2 b3 b4 b5 b6 b7 ev wr wg ke ma li ps pn cy ((f_Mo_reaches ca va a (4 : Int32)).2.1) ((f_Mo_reaches ca va a (4 : Int32)).2.2) cn pp px go ne gi gn)) hP hD hS hA [0, 1, 2, 3, 4, 5, 6, 7] rfl [b0, b1, b2, b3, b4, b5, b6, b7] rfl rfl (va_runV (rest := []) ⟨hx, hb, hml, hown, hg⟩ (c_Mo_reaches l D cI cL b0 b1 b2 b3 b4 b5 b6 b7 _ ev wr wg ke ma li ps pn cy ca va cn pp px go ne gi gn a (4 : Int32) (by decide)) ⟨callB_of 2 hg (gw_good m_680) rfl rfl rfl (hg _ m_71) (hg _ m_677) hd_Mo_reaches ⟨Nat.le_of_ble_eq_true rfl, Nat.le_of_ble_eq_true rfl⟩, hg _ m_679, hg _ m_55⟩ (pw_V hK hN hT hA hP hD hS [0, 1, 2, 3, 4, 5, 6, 7] rfl (by decide) (q0 := 0) (ci := 5) rfl rfl) rfl rfl hl.1 rfl (lv_room (Nat.le_of_ble_eq_true rfl)) d_Mo_load_43 ⟨Nat.le_of_ble_eq_true rfl, Nat.le_of_ble_eq_true rfl⟩) (fun H locs hP hD hS => ?_)
          have hP : va_P D classes (W_Mo cI cL b0 b1 b2 b3 b4 b5 b6 b7 ev wr wg ke ma li ps pn cy ((f_Mo_reaches ca va a (4 : Int32)).2.1) ((f_Mo_reaches ca va a (4 : Int32)).2.2) cn pp px go ne gi gn) H := hP
          have hD : va_D A (W_Mo cI cL b0 b1 b2 b3 b4 b5 b6 b7 ev wr wg ke ma li ps pn cy ((f_Mo_reaches ca va a (4 : Int32)).2.1) ((f_Mo_reaches ca va a (4 : Int32)).2.2) cn pp px go ne gi gn) := hD
          generalize e_t2 : f_Mo_reaches ca va a (4 : Int32) = t2 at hP hD ⊢
          obtain ⟨t2_0, t2_1, t2_2⟩ := t2
          have hP : va_P D classes (W_Mo cI cL b0 b1 b2 b3 b4 b5 b6 b7 ev wr wg ke ma li ps pn cy t2_1 t2_2 cn pp px go ne gi gn) H := hP
          have hD : va_D A (W_Mo cI cL b0 b1 b2 b3 b4 b5 b6 b7 ev wr wg ke ma li ps pn cy t2_1 t2_2 cn pp px go ne gi gn) := hD
          refine W.eq (g2 := F0 m 46 ls (.int t2_0 :: [])) rfl ?_
          refine lv_if_eq (tgt := 107) hx hb d_Mo_load_46 (by decide) (fun h46 => ?_) (fun h46 => ?_)
          · rw [f_Mo_load_e1 wr wg li ca va cn px go gi gn f a (t2_0, t2_1, t2_2) e_t2 h3 h14 h25 h30 h46]
            exact W.vret hx hb hr (fun t ht hW => ⟨⟨(), rfl, trivial, by show va_P D classes _ t.heap; rw [ht]; exact hP⟩, hS.F ht⟩) hS.2.2 d_Mo_load_107 hlocks
          · refine lv_aload_n hx hb d_Mo_load_49 rfl (lv_at hl 1 rfl) ?_
            refine lv_iconst (v := 1) hx hb d_Mo_load_50 (by decide) ?_
            refine lv_iload_n hx hb d_Mo_load_51 rfl (lv_at hl 3 rfl) ?_
            refine lv_iconst (v := 4) hx hb d_Mo_load_52 (by decide) ?_
            refine lv_idiv hx hb d_Mo_load_53 (by decide) ?_
            refine cj_i (wc := (W_Mo cI cL b0 b1 b2 b3 b4 b5 b6 b7 ev wr wg ke ma li ps pn cy t2_1 t2_2 cn pp px go ne gi gn)) (w1 := (W_Mo cI cL b0 b1 b2 b3 b4 b5 b6 b7 ev wr ((f_Mo_fetch wr wg li t2_1 t2_2 cn go (1 : Int32) (a / (4 : Int32))).2.1) ke ma ((f_Mo_fetch wr wg li t2_1 t2_2 cn go (1 : Int32) (a / (4 : Int32))).2.2.1) ps pn cy ((f_Mo_fetch wr wg li t2_1 t2_2 cn go (1 : Int32) (a / (4 : Int32))).2.2.2.1) ((f_Mo_fetch wr wg li t2_1 t2_2 cn go (1 : Int32) (a / (4 : Int32))).2.2.2.2.1) ((f_Mo_fetch wr wg li t2_1 t2_2 cn go (1 : Int32) (a / (4 : Int32))).2.2.2.2.2.1) pp px ((f_Mo_fetch wr wg li t2_1 t2_2 cn go (1 : Int32) (a / (4 : Int32))).2.2.2.2.2.2) ne gi gn)) hP hD hS hA [0, 1, 2, 3, 4, 5, 6, 7] rfl [b0, b1, b2, b3, b4, b5, b6, b7] rfl rfl (va_runV (rest := []) ⟨hx, hb, hml, hown, hg⟩ (c_Mo_fetch l D cI cL b0 b1 b2 b3 b4 b5 b6 b7 _ ev wr wg ke ma li ps pn cy t2_1 t2_2 cn pp px go ne gi gn (1 : Int32) (a / (4 : Int32)) (vp_ofb (by decide)) (in_reachT e_t2 h46)) ⟨callB_of 2 hg (gw_good m_599) rfl rfl rfl (hg _ m_71) (hg _ m_596) hd_Mo_fetch ⟨Nat.le_of_ble_eq_true rfl, Nat.le_of_ble_eq_true rfl⟩, hg _ m_598, hg _ m_41⟩ (pw_V hK hN hT hA hP hD hS [0, 1, 2, 3, 4, 5, 6, 7] rfl (by decide) (q0 := 0) (ci := 5) rfl rfl) rfl rfl hl.1 rfl (lv_room (Nat.le_of_ble_eq_true rfl)) d_Mo_load_54 ⟨Nat.le_of_ble_eq_true rfl, Nat.le_of_ble_eq_true rfl⟩) (fun H locs hP hD hS => ?_)
            have hP : va_P D classes (W_Mo cI cL b0 b1 b2 b3 b4 b5 b6 b7 ev wr ((f_Mo_fetch wr wg li t2_1 t2_2 cn go (1 : Int32) (a / (4 : Int32))).2.1) ke ma ((f_Mo_fetch wr wg li t2_1 t2_2 cn go (1 : Int32) (a / (4 : Int32))).2.2.1) ps pn cy ((f_Mo_fetch wr wg li t2_1 t2_2 cn go (1 : Int32) (a / (4 : Int32))).2.2.2.1) ((f_Mo_fetch wr wg li t2_1 t2_2 cn go (1 : Int32) (a / (4 : Int32))).2.2.2.2.1) ((f_Mo_fetch wr wg li t2_1 t2_2 cn go (1 : Int32) (a / (4 : Int32))).2.2.2.2.2.1) pp px ((f_Mo_fetch wr wg li t2_1 t2_2 cn go (1 : Int32) (a / (4 : Int32))).2.2.2.2.2.2) ne gi gn) H := hP
            have hD : va_D A (W_Mo cI cL b0 b1 b2 b3 b4 b5 b6 b7 ev wr ((f_Mo_fetch wr wg li t2_1 t2_2 cn go (1 : Int32) (a / (4 : Int32))).2.1) ke ma ((f_Mo_fetch wr wg li t2_1 t2_2 cn go (1 : Int32) (a / (4 : Int32))).2.2.1) ps pn cy ((f_Mo_fetch wr wg li t2_1 t2_2 cn go (1 : Int32) (a / (4 : Int32))).2.2.2.1) ((f_Mo_fetch wr wg li t2_1 t2_2 cn go (1 : Int32) (a / (4 : Int32))).2.2.2.2.1) ((f_Mo_fetch wr wg li t2_1 t2_2 cn go (1 : Int32) (a / (4 : Int32))).2.2.2.2.2.1) pp px ((f_Mo_fetch wr wg li t2_1 t2_2 cn go (1 : Int32) (a / (4 : Int32))).2.2.2.2.2.2) ne gi gn) := hD
            generalize e_t3 : f_Mo_fetch wr wg li t2_1 t2_2 cn go (1 : Int32) (a / (4 : Int32)) = t3 at hP hD ⊢
            obtain ⟨t3_0, t3_1, t3_2, t3_3, t3_4, t3_5, t3_6⟩ := t3
            have hP : va_P D classes (W_Mo cI cL b0 b1 b2 b3 b4 b5 b6 b7 ev wr t3_1 ke ma t3_2 ps pn cy t3_3 t3_4 t3_5 pp px t3_6 ne gi gn) H := hP
            have hD : va_D A (W_Mo cI cL b0 b1 b2 b3 b4 b5 b6 b7 ev wr t3_1 ke ma t3_2 ps pn cy t3_3 t3_4 t3_5 pp px t3_6 ne gi gn) := hD
            refine W.eq (g2 := F0 m 57 ls (.int t3_0 :: [])) rfl ?_
            refine lv_if_eq (tgt := 107) hx hb d_Mo_load_57 (by decide) (fun h57 => ?_) (fun h57 => ?_)
            · rw [f_Mo_load_e2 wr wg li ca va cn px go gi gn f a (t2_0, t2_1, t2_2) (t3_0, t3_1, t3_2, t3_3, t3_4, t3_5, t3_6) e_t2 e_t3 h3 h14 h25 h30 h46 h57]
              exact W.vret hx hb hr (fun t ht hW => ⟨⟨(), rfl, trivial, by show va_P D classes _ t.heap; rw [ht]; exact hP⟩, hS.F ht⟩) hS.2.2 d_Mo_load_107 hlocks
            · refine lv_bipush (v := 32) hx hb d_Mo_load_60 (by decide) ?_
              refine lv_bipush (v := 8) hx hb d_Mo_load_62 (by decide) ?_
              refine lv_iload_n hx hb d_Mo_load_64 rfl (lv_at hl 0 rfl) ?_
              refine lv_imul hx hb d_Mo_load_65 ?_
              refine lv_isub hx hb d_Mo_load_66 ?_
              refine lv_istore (lv' := [(4, .int _), (3, .int _), (0, .ref _), (1, .int _), (2, .int _)]) hx hb d_Mo_load_67 hl (by decide) rfl (fun ls hl => ?_)
              refine lv_aload_n hx hb d_Mo_load_69 rfl (lv_at hl 2 rfl) ?_
              refine va_get (ci := 5) (C := R_Mo) (T := F_Mo) (N := 18) hx hb hg in_Mo hown hK hP 0 rfl rfl 14 (by decide) (hg _ m_517) (fun _ h => h) rfl d_Mo_load_70 ?_
              refine lv_bipush (v := 8) hx hb d_Mo_load_73 (by decide) ?_
              refine lv_iload_n hx hb d_Mo_load_75 rfl (lv_at hl 4 rfl) ?_
              refine lv_iconst (v := 4) hx hb d_Mo_load_76 (by decide) ?_
              refine lv_irem hx hb d_Mo_load_77 (by decide) ?_
              refine lv_imul hx hb d_Mo_load_78 ?_
              refine lv_ishr hx hb d_Mo_load_79 ?_
              refine lv_iload hx hb d_Mo_load_80 (lv_at hl 0 rfl) ?_
              refine lv_ishl hx hb d_Mo_load_82 ?_
              refine lv_topi (fun t4 e_t4 => ?_)
              have e_t4 := e_t4.symm
              refine lv_istore (lv' := [(5, .int _), (4, .int _), (3, .int _), (0, .ref _), (1, .int _), (2, .int _)]) hx hb d_Mo_load_83 hl (by decide) rfl (fun ls hl => ?_)
              refine lv_aload_n hx hb d_Mo_load_85 rfl (lv_at hl 3 rfl) ?_
              refine lv_iload_n hx hb d_Mo_load_86 rfl (lv_at hl 4 rfl) ?_
              refine lv_iconst (v := 4) hx hb d_Mo_load_87 (by decide) ?_
              refine lv_icmp_ge (tgt := 99) hx hb d_Mo_load_88 (by decide) (fun h88 => ?_) (fun h88 => ?_)
              · refine lv_iload hx hb d_Mo_load_99 (lv_at hl 0 rfl) ?_
                refine lv_iload hx hb d_Mo_load_101 (lv_at hl 1 rfl) ?_
                refine lv_iushr (v := u_ush _ _) hx hb d_Mo_load_103 rfl ?_
                refine cj_v (wc := (W_Mo cI cL b0 b1 b2 b3 b4 b5 b6 b7 ev wr t3_1 ke ma t3_2 ps pn cy t3_3 t3_4 t3_5 pp px t3_6 ne gi gn)) (w1 := (W_Mo cI cL b0 b1 b2 b3 b4 b5 b6 b7 ev wr t3_1 ke ma t3_2 ps pn cy t3_3 t3_4 t3_5 pp px t3_6 ne ((f_Mo_give gi gn (u_ush t4 ((32 : Int32) - ((8 : Int32) * (4 : Int32))))).1) ((f_Mo_give gi gn (u_ush t4 ((32 : Int32) - ((8 : Int32) * (4 : Int32))))).2))) hP hD hS hA [0, 1, 2, 3, 4, 5, 6, 7] rfl [b0, b1, b2, b3, b4, b5, b6, b7] rfl rfl (va_runV (rest := []) ⟨hx, hb, hml, hown, hg⟩ (c_Mo_give l D cI cL b0 b1 b2 b3 b4 b5 b6 b7 _ ev wr t3_1 ke ma t3_2 ps pn cy t3_3 t3_4 t3_5 pp px t3_6 ne gi gn (u_ush t4 ((32 : Int32) - ((8 : Int32) * (4 : Int32))))) ⟨callB_of 1 hg (gw_good m_645) rfl rfl rfl (hg _ m_71) (hg _ m_642) hd_Mo_give ⟨Nat.le_of_ble_eq_true rfl, Nat.le_of_ble_eq_true rfl⟩, hg _ m_644, hg _ m_47⟩ (pw_V hK hN hT hA hP hD hS [0, 1, 2, 3, 4, 5, 6, 7] rfl (by decide) (q0 := 0) (ci := 5) rfl rfl) rfl rfl hl.1 rfl (lv_room (Nat.le_of_ble_eq_true rfl)) d_Mo_load_104 ⟨Nat.le_of_ble_eq_true rfl, Nat.le_of_ble_eq_true rfl⟩) (fun H locs hP hD hS => ?_)
                have hP : va_P D classes (W_Mo cI cL b0 b1 b2 b3 b4 b5 b6 b7 ev wr t3_1 ke ma t3_2 ps pn cy t3_3 t3_4 t3_5 pp px t3_6 ne ((f_Mo_give gi gn (u_ush t4 ((32 : Int32) - ((8 : Int32) * (4 : Int32))))).1) ((f_Mo_give gi gn (u_ush t4 ((32 : Int32) - ((8 : Int32) * (4 : Int32))))).2)) H := hP
                have hD : va_D A (W_Mo cI cL b0 b1 b2 b3 b4 b5 b6 b7 ev wr t3_1 ke ma t3_2 ps pn cy t3_3 t3_4 t3_5 pp px t3_6 ne ((f_Mo_give gi gn (u_ush t4 ((32 : Int32) - ((8 : Int32) * (4 : Int32))))).1) ((f_Mo_give gi gn (u_ush t4 ((32 : Int32) - ((8 : Int32) * (4 : Int32))))).2)) := hD
                generalize e_t5 : f_Mo_give gi gn (u_ush t4 ((32 : Int32) - ((8 : Int32) * (4 : Int32)))) = t5 at hP hD ⊢
                obtain ⟨t5_0, t5_1⟩ := t5
                have hP : va_P D classes (W_Mo cI cL b0 b1 b2 b3 b4 b5 b6 b7 ev wr t3_1 ke ma t3_2 ps pn cy t3_3 t3_4 t3_5 pp px t3_6 ne t5_0 t5_1) H := hP
                have hD : va_D A (W_Mo cI cL b0 b1 b2 b3 b4 b5 b6 b7 ev wr t3_1 ke ma t3_2 ps pn cy t3_3 t3_4 t3_5 pp px t3_6 ne t5_0 t5_1) := hD
                rw [f_Mo_load_e3 wr wg li ca va cn px go gi gn f a (t2_0, t2_1, t2_2) (t3_0, t3_1, t3_2, t3_3, t3_4, t3_5, t3_6) t4 (t5_0, t5_1) e_t2 e_t3 e_t4 e_t5 h3 h14 h25 h30 h46 h57 h88]
                exact W.vret hx hb hr (fun t ht hW => ⟨⟨(), rfl, trivial, by show va_P D classes _ t.heap; rw [ht]; exact hP⟩, hS.F ht⟩) hS.2.2 d_Mo_load_107 hlocks
              · refine lv_iload hx hb d_Mo_load_91 (lv_at hl 0 rfl) ?_
                refine lv_iload hx hb d_Mo_load_93 (lv_at hl 1 rfl) ?_
                refine lv_ishr hx hb d_Mo_load_95 ?_
                refine lv_goto (tgt := 104) hx hb d_Mo_load_96 (by decide) ?_
                refine cj_v (wc := (W_Mo cI cL b0 b1 b2 b3 b4 b5 b6 b7 ev wr t3_1 ke ma t3_2 ps pn cy t3_3 t3_4 t3_5 pp px t3_6 ne gi gn)) (w1 := (W_Mo cI cL b0 b1 b2 b3 b4 b5 b6 b7 ev wr t3_1 ke ma t3_2 ps pn cy t3_3 t3_4 t3_5 pp px t3_6 ne ((f_Mo_give gi gn (t4 >>> (((32 : Int32) - ((8 : Int32) * (4 : Int32))) &&& 31))).1) ((f_Mo_give gi gn (t4 >>> (((32 : Int32) - ((8 : Int32) * (4 : Int32))) &&& 31))).2))) hP hD hS hA [0, 1, 2, 3, 4, 5, 6, 7] rfl [b0, b1, b2, b3, b4, b5, b6, b7] rfl rfl (va_runV (rest := []) ⟨hx, hb, hml, hown, hg⟩ (c_Mo_give l D cI cL b0 b1 b2 b3 b4 b5 b6 b7 _ ev wr t3_1 ke ma t3_2 ps pn cy t3_3 t3_4 t3_5 pp px t3_6 ne gi gn (t4 >>> (((32 : Int32) - ((8 : Int32) * (4 : Int32))) &&& 31))) ⟨callB_of 1 hg (gw_good m_645) rfl rfl rfl (hg _ m_71) (hg _ m_642) hd_Mo_give ⟨Nat.le_of_ble_eq_true rfl, Nat.le_of_ble_eq_true rfl⟩, hg _ m_644, hg _ m_47⟩ (pw_V hK hN hT hA hP hD hS [0, 1, 2, 3, 4, 5, 6, 7] rfl (by decide) (q0 := 0) (ci := 5) rfl rfl) rfl rfl hl.1 rfl (lv_room (Nat.le_of_ble_eq_true rfl)) d_Mo_load_104 ⟨Nat.le_of_ble_eq_true rfl, Nat.le_of_ble_eq_true rfl⟩) (fun H locs hP hD hS => ?_)
                have hP : va_P D classes (W_Mo cI cL b0 b1 b2 b3 b4 b5 b6 b7 ev wr t3_1 ke ma t3_2 ps pn cy t3_3 t3_4 t3_5 pp px t3_6 ne ((f_Mo_give gi gn (t4 >>> (((32 : Int32) - ((8 : Int32) * (4 : Int32))) &&& 31))).1) ((f_Mo_give gi gn (t4 >>> (((32 : Int32) - ((8 : Int32) * (4 : Int32))) &&& 31))).2)) H := hP
                have hD : va_D A (W_Mo cI cL b0 b1 b2 b3 b4 b5 b6 b7 ev wr t3_1 ke ma t3_2 ps pn cy t3_3 t3_4 t3_5 pp px t3_6 ne ((f_Mo_give gi gn (t4 >>> (((32 : Int32) - ((8 : Int32) * (4 : Int32))) &&& 31))).1) ((f_Mo_give gi gn (t4 >>> (((32 : Int32) - ((8 : Int32) * (4 : Int32))) &&& 31))).2)) := hD
                generalize e_t6 : f_Mo_give gi gn (t4 >>> (((32 : Int32) - ((8 : Int32) * (4 : Int32))) &&& 31)) = t6 at hP hD ⊢
                obtain ⟨t6_0, t6_1⟩ := t6
                have hP : va_P D classes (W_Mo cI cL b0 b1 b2 b3 b4 b5 b6 b7 ev wr t3_1 ke ma t3_2 ps pn cy t3_3 t3_4 t3_5 pp px t3_6 ne t6_0 t6_1) H := hP
                have hD : va_D A (W_Mo cI cL b0 b1 b2 b3 b4 b5 b6 b7 ev wr t3_1 ke ma t3_2 ps pn cy t3_3 t3_4 t3_5 pp px t3_6 ne t6_0 t6_1) := hD
                rw [f_Mo_load_e4 wr wg li ca va cn px go gi gn f a (t2_0, t2_1, t2_2) (t3_0, t3_1, t3_2, t3_3, t3_4, t3_5, t3_6) t4 (t6_0, t6_1) e_t2 e_t3 e_t4 e_t6 h3 h14 h25 h30 h46 h57 h88]
                exact W.vret hx hb hr (fun t ht hW => ⟨⟨(), rfl, trivial, by show va_P D classes _ t.heap; rw [ht]; exact hP⟩, hS.F ht⟩) hS.2.2 d_Mo_load_107 hlocks
        · refine lv_aload_n hx hb d_Mo_load_33 rfl (lv_at hl 1 rfl) ?_
          refine cj_v (wc := (W_Mo cI cL b0 b1 b2 b3 b4 b5 b6 b7 ev wr wg ke ma li ps pn cy ca va cn pp px go ne gi gn)) (w1 := (W_Mo cI cL b0 b1 b2 b3 b4 b5 b6 b7 ev wr wg ke ma li ps pn cy ((f_Mo_illegal ca va px).1) ((f_Mo_illegal ca va px).2) cn pp px go ne gi gn)) hP hD hS hA [0, 1, 2, 3, 4, 5, 6, 7] rfl [b0, b1, b2, b3, b4, b5, b6, b7] rfl rfl (va_runV (rest := []) ⟨hx, hb, hml, hown, hg⟩ (c_Mo_illegal l D cI cL b0 b1 b2 b3 b4 b5 b6 b7 _ ev wr wg ke ma li ps pn cy ca va cn pp px go ne gi gn) ⟨callB_of 0 hg (gw_good m_661) rfl rfl rfl (hg _ m_71) (hg _ m_658) hd_Mo_illegal ⟨Nat.le_of_ble_eq_true rfl, Nat.le_of_ble_eq_true rfl⟩, hg _ m_660, hg _ m_51⟩ (pw_V hK hN hT hA hP hD hS [0, 1, 2, 3, 4, 5, 6, 7] rfl (by decide) (q0 := 0) (ci := 5) rfl rfl) rfl rfl hl.1 rfl (lv_room (Nat.le_of_ble_eq_true rfl)) d_Mo_load_34 ⟨Nat.le_of_ble_eq_true rfl, Nat.le_of_ble_eq_true rfl⟩) (fun H locs hP hD hS => ?_)
          have hP : va_P D classes (W_Mo cI cL b0 b1 b2 b3 b4 b5 b6 b7 ev wr wg ke ma li ps pn cy ((f_Mo_illegal ca va px).1) ((f_Mo_illegal ca va px).2) cn pp px go ne gi gn) H := hP
          have hD : va_D A (W_Mo cI cL b0 b1 b2 b3 b4 b5 b6 b7 ev wr wg ke ma li ps pn cy ((f_Mo_illegal ca va px).1) ((f_Mo_illegal ca va px).2) cn pp px go ne gi gn) := hD
          generalize e_t7 : f_Mo_illegal ca va px = t7 at hP hD ⊢
          obtain ⟨t7_0, t7_1⟩ := t7
          have hP : va_P D classes (W_Mo cI cL b0 b1 b2 b3 b4 b5 b6 b7 ev wr wg ke ma li ps pn cy t7_0 t7_1 cn pp px go ne gi gn) H := hP
          have hD : va_D A (W_Mo cI cL b0 b1 b2 b3 b4 b5 b6 b7 ev wr wg ke ma li ps pn cy t7_0 t7_1 cn pp px go ne gi gn) := hD
          refine lv_goto (tgt := 107) hx hb d_Mo_load_37 (by decide) ?_
          rw [f_Mo_load_e5 wr wg li ca va cn px go gi gn f a (t7_0, t7_1) e_t7 h3 h14 h25 h30]
          exact W.vret hx hb hr (fun t ht hW => ⟨⟨(), rfl, trivial, by show va_P D classes _ t.heap; rw [ht]; exact hP⟩, hS.F ht⟩) hS.2.2 d_Mo_load_107 hlocks
    · refine lv_iconst (v := 2) hx hb d_Mo_load_17 (by decide) ?_
      refine lv_goto (tgt := 22) hx hb d_Mo_load_18 (by decide) ?_
      refine lv_istore_n (lv' := [(3, .int _), (0, .ref _), (1, .int _), (2, .int _)]) hx hb d_Mo_load_22 rfl hl (by decide) rfl (fun ls hl => ?_)
      refine lv_iload_n hx hb d_Mo_load_23 rfl (lv_at hl 2 rfl) ?_
      refine lv_iconst (v := 3) hx hb d_Mo_load_24 (by decide) ?_
      refine lv_icmp_eq (tgt := 33) hx hb d_Mo_load_25 (by decide) (fun h25 => ?_) (fun h25 => ?_)
      · refine lv_aload_n hx hb d_Mo_load_33 rfl (lv_at hl 1 rfl) ?_
        refine cj_v (wc := (W_Mo cI cL b0 b1 b2 b3 b4 b5 b6 b7 ev wr wg ke ma li ps pn cy ca va cn pp px go ne gi gn)) (w1 := (W_Mo cI cL b0 b1 b2 b3 b4 b5 b6 b7 ev wr wg ke ma li ps pn cy ((f_Mo_illegal ca va px).1) ((f_Mo_illegal ca va px).2) cn pp px go ne gi gn)) hP hD hS hA [0, 1, 2, 3, 4, 5, 6, 7] rfl [b0, b1, b2, b3, b4, b5, b6, b7] rfl rfl (va_runV (rest := []) ⟨hx, hb, hml, hown, hg⟩ (c_Mo_illegal l D cI cL b0 b1 b2 b3 b4 b5 b6 b7 _ ev wr wg ke ma li ps pn cy ca va cn pp px go ne gi gn) ⟨callB_of 0 hg (gw_good m_661) rfl rfl rfl (hg _ m_71) (hg _ m_658) hd_Mo_illegal ⟨Nat.le_of_ble_eq_true rfl, Nat.le_of_ble_eq_true rfl⟩, hg _ m_660, hg _ m_51⟩ (pw_V hK hN hT hA hP hD hS [0, 1, 2, 3, 4, 5, 6, 7] rfl (by decide) (q0 := 0) (ci := 5) rfl rfl) rfl rfl hl.1 rfl (lv_room (Nat.le_of_ble_eq_true rfl)) d_Mo_load_34 ⟨Nat.le_of_ble_eq_true rfl, Nat.le_of_ble_eq_true rfl⟩) (fun H locs hP hD hS => ?_)
        have hP : va_P D classes (W_Mo cI cL b0 b1 b2 b3 b4 b5 b6 b7 ev wr wg ke ma li ps pn cy ((f_Mo_illegal ca va px).1) ((f_Mo_illegal ca va px).2) cn pp px go ne gi gn) H := hP
        have hD : va_D A (W_Mo cI cL b0 b1 b2 b3 b4 b5 b6 b7 ev wr wg ke ma li ps pn cy ((f_Mo_illegal ca va px).1) ((f_Mo_illegal ca va px).2) cn pp px go ne gi gn) := hD
        generalize e_t8 : f_Mo_illegal ca va px = t8 at hP hD ⊢
        obtain ⟨t8_0, t8_1⟩ := t8
        have hP : va_P D classes (W_Mo cI cL b0 b1 b2 b3 b4 b5 b6 b7 ev wr wg ke ma li ps pn cy t8_0 t8_1 cn pp px go ne gi gn) H := hP
        have hD : va_D A (W_Mo cI cL b0 b1 b2 b3 b4 b5 b6 b7 ev wr wg ke ma li ps pn cy t8_0 t8_1 cn pp px go ne gi gn) := hD
        refine lv_goto (tgt := 107) hx hb d_Mo_load_37 (by decide) ?_
        rw [f_Mo_load_e6 wr wg li ca va cn px go gi gn f a (t8_0, t8_1) e_t8 h3 h14 h25]
        exact W.vret hx hb hr (fun t ht hW => ⟨⟨(), rfl, trivial, by show va_P D classes _ t.heap; rw [ht]; exact hP⟩, hS.F ht⟩) hS.2.2 d_Mo_load_107 hlocks
      · refine lv_iload_n hx hb d_Mo_load_28 rfl (lv_at hl 2 rfl) ?_
        refine lv_iconst (v := 5) hx hb d_Mo_load_29 (by decide) ?_
        refine lv_icmp_le (tgt := 40) hx hb d_Mo_load_30 (by decide) (fun h30 => ?_) (fun h30 => ?_)
        · refine lv_aload_n hx hb d_Mo_load_40 rfl (lv_at hl 1 rfl) ?_
          refine lv_iload_n hx hb d_Mo_load_41 rfl (lv_at hl 3 rfl) ?_
          refine lv_iload_n hx hb d_Mo_load_42 rfl (lv_at hl 0 rfl) ?_
          refine cj_i (wc := (W_Mo cI cL b0 b1 b2 b3 b4 b5 b6 b7 ev wr wg ke ma li ps pn cy ca va cn pp px go ne gi gn)) (w1 := (W_Mo cI cL b0 b1 b2 b3 b4 b5 b6 b7 ev wr wg ke ma li ps pn cy ((f_Mo_reaches ca va a (2 : Int32)).2.1) ((f_Mo_reaches ca va a (2 : Int32)).2.2) cn pp px go ne gi gn)) hP hD hS hA [0, 1, 2, 3, 4, 5, 6, 7] rfl [b0, b1, b2, b3, b4, b5, b6, b7] rfl rfl (va_runV (rest := []) ⟨hx, hb, hml, hown, hg⟩ (c_Mo_reaches l D cI cL b0 b1 b2 b3 b4 b5 b6 b7 _ ev wr wg ke ma li ps pn cy ca va cn pp px go ne gi gn a (2 : Int32) (by decide)) ⟨callB_of 2 hg (gw_good m_680) rfl rfl rfl (hg _ m_71) (hg _ m_677) hd_Mo_reaches ⟨Nat.le_of_ble_eq_true rfl, Nat.le_of_ble_eq_true rfl⟩, hg _ m_679, hg _ m_55⟩ (pw_V hK hN hT hA hP hD hS [0, 1, 2, 3, 4, 5, 6, 7] rfl (by decide) (q0 := 0) (ci := 5) rfl rfl) rfl rfl hl.1 rfl (lv_room (Nat.le_of_ble_eq_true rfl)) d_Mo_load_43 ⟨Nat.le_of_ble_eq_true rfl, Nat.le_of_ble_eq_true rfl⟩) (fun H locs hP hD hS => ?_)
          have hP : va_P D classes (W_Mo cI cL b0 b1 b2 b3 b4 b5 b6 b7 ev wr wg ke ma li ps pn cy ((f_Mo_reaches ca va a (2 : Int32)).2.1) ((f_Mo_reaches ca va a (2 : Int32)).2.2) cn pp px go ne gi gn) H := hP
          have hD : va_D A (W_Mo cI cL b0 b1 b2 b3 b4 b5 b6 b7 ev wr wg ke ma li ps pn cy ((f_Mo_reaches ca va a (2 : Int32)).2.1) ((f_Mo_reaches ca va a (2 : Int32)).2.2) cn pp px go ne gi gn) := hD
          generalize e_t9 : f_Mo_reaches ca va a (2 : Int32) = t9 at hP hD ⊢
          obtain ⟨t9_0, t9_1, t9_2⟩ := t9
          have hP : va_P D classes (W_Mo cI cL b0 b1 b2 b3 b4 b5 b6 b7 ev wr wg ke ma li ps pn cy t9_1 t9_2 cn pp px go ne gi gn) H := hP
          have hD : va_D A (W_Mo cI cL b0 b1 b2 b3 b4 b5 b6 b7 ev wr wg ke ma li ps pn cy t9_1 t9_2 cn pp px go ne gi gn) := hD
          refine W.eq (g2 := F0 m 46 ls (.int t9_0 :: [])) rfl ?_
          refine lv_if_eq (tgt := 107) hx hb d_Mo_load_46 (by decide) (fun h46 => ?_) (fun h46 => ?_)
          · rw [f_Mo_load_e7 wr wg li ca va cn px go gi gn f a (t9_0, t9_1, t9_2) e_t9 h3 h14 h25 h30 h46]
            exact W.vret hx hb hr (fun t ht hW => ⟨⟨(), rfl, trivial, by show va_P D classes _ t.heap; rw [ht]; exact hP⟩, hS.F ht⟩) hS.2.2 d_Mo_load_107 hlocks
          · refine lv_aload_n hx hb d_Mo_load_49 rfl (lv_at hl 1 rfl) ?_
            refine lv_iconst (v := 1) hx hb d_Mo_load_50 (by decide) ?_
            refine lv_iload_n hx hb d_Mo_load_51 rfl (lv_at hl 3 rfl) ?_
            refine lv_iconst (v := 4) hx hb d_Mo_load_52 (by decide) ?_
            refine lv_idiv hx hb d_Mo_load_53 (by decide) ?_
            refine cj_i (wc := (W_Mo cI cL b0 b1 b2 b3 b4 b5 b6 b7 ev wr wg ke ma li ps pn cy t9_1 t9_2 cn pp px go ne gi gn)) (w1 := (W_Mo cI cL b0 b1 b2 b3 b4 b5 b6 b7 ev wr ((f_Mo_fetch wr wg li t9_1 t9_2 cn go (1 : Int32) (a / (4 : Int32))).2.1) ke ma ((f_Mo_fetch wr wg li t9_1 t9_2 cn go (1 : Int32) (a / (4 : Int32))).2.2.1) ps pn cy ((f_Mo_fetch wr wg li t9_1 t9_2 cn go (1 : Int32) (a / (4 : Int32))).2.2.2.1) ((f_Mo_fetch wr wg li t9_1 t9_2 cn go (1 : Int32) (a / (4 : Int32))).2.2.2.2.1) ((f_Mo_fetch wr wg li t9_1 t9_2 cn go (1 : Int32) (a / (4 : Int32))).2.2.2.2.2.1) pp px ((f_Mo_fetch wr wg li t9_1 t9_2 cn go (1 : Int32) (a / (4 : Int32))).2.2.2.2.2.2) ne gi gn)) hP hD hS hA [0, 1, 2, 3, 4, 5, 6, 7] rfl [b0, b1, b2, b3, b4, b5, b6, b7] rfl rfl (va_runV (rest := []) ⟨hx, hb, hml, hown, hg⟩ (c_Mo_fetch l D cI cL b0 b1 b2 b3 b4 b5 b6 b7 _ ev wr wg ke ma li ps pn cy t9_1 t9_2 cn pp px go ne gi gn (1 : Int32) (a / (4 : Int32)) (vp_ofb (by decide)) (in_reachT e_t9 h46)) ⟨callB_of 2 hg (gw_good m_599) rfl rfl rfl (hg _ m_71) (hg _ m_596) hd_Mo_fetch ⟨Nat.le_of_ble_eq_true rfl, Nat.le_of_ble_eq_true rfl⟩, hg _ m_598, hg _ m_41⟩ (pw_V hK hN hT hA hP hD hS [0, 1, 2, 3, 4, 5, 6, 7] rfl (by decide) (q0 := 0) (ci := 5) rfl rfl) rfl rfl hl.1 rfl (lv_room (Nat.le_of_ble_eq_true rfl)) d_Mo_load_54 ⟨Nat.le_of_ble_eq_true rfl, Nat.le_of_ble_eq_true rfl⟩) (fun H locs hP hD hS => ?_)
            have hP : va_P D classes (W_Mo cI cL b0 b1 b2 b3 b4 b5 b6 b7 ev wr ((f_Mo_fetch wr wg li t9_1 t9_2 cn go (1 : Int32) (a / (4 : Int32))).2.1) ke ma ((f_Mo_fetch wr wg li t9_1 t9_2 cn go (1 : Int32) (a / (4 : Int32))).2.2.1) ps pn cy ((f_Mo_fetch wr wg li t9_1 t9_2 cn go (1 : Int32) (a / (4 : Int32))).2.2.2.1) ((f_Mo_fetch wr wg li t9_1 t9_2 cn go (1 : Int32) (a / (4 : Int32))).2.2.2.2.1) ((f_Mo_fetch wr wg li t9_1 t9_2 cn go (1 : Int32) (a / (4 : Int32))).2.2.2.2.2.1) pp px ((f_Mo_fetch wr wg li t9_1 t9_2 cn go (1 : Int32) (a / (4 : Int32))).2.2.2.2.2.2) ne gi gn) H := hP
            have hD : va_D A (W_Mo cI cL b0 b1 b2 b3 b4 b5 b6 b7 ev wr ((f_Mo_fetch wr wg li t9_1 t9_2 cn go (1 : Int32) (a / (4 : Int32))).2.1) ke ma ((f_Mo_fetch wr wg li t9_1 t9_2 cn go (1 : Int32) (a / (4 : Int32))).2.2.1) ps pn cy ((f_Mo_fetch wr wg li t9_1 t9_2 cn go (1 : Int32) (a / (4 : Int32))).2.2.2.1) ((f_Mo_fetch wr wg li t9_1 t9_2 cn go (1 : Int32) (a / (4 : Int32))).2.2.2.2.1) ((f_Mo_fetch wr wg li t9_1 t9_2 cn go (1 : Int32) (a / (4 : Int32))).2.2.2.2.2.1) pp px ((f_Mo_fetch wr wg li t9_1 t9_2 cn go (1 : Int32) (a / (4 : Int32))).2.2.2.2.2.2) ne gi gn) := hD
            generalize e_t10 : f_Mo_fetch wr wg li t9_1 t9_2 cn go (1 : Int32) (a / (4 : Int32)) = t10 at hP hD ⊢
            obtain ⟨t10_0, t10_1, t10_2, t10_3, t10_4, t10_5, t10_6⟩ := t10
            have hP : va_P D classes (W_Mo cI cL b0 b1 b2 b3 b4 b5 b6 b7 ev wr t10_1 ke ma t10_2 ps pn cy t10_3 t10_4 t10_5 pp px t10_6 ne gi gn) H := hP
            have hD : va_D A (W_Mo cI cL b0 b1 b2 b3 b4 b5 b6 b7 ev wr t10_1 ke ma t10_2 ps pn cy t10_3 t10_4 t10_5 pp px t10_6 ne gi gn) := hD
            refine W.eq (g2 := F0 m 57 ls (.int t10_0 :: [])) rfl ?_
            refine lv_if_eq (tgt := 107) hx hb d_Mo_load_57 (by decide) (fun h57 => ?_) (fun h57 => ?_)
            · rw [f_Mo_load_e8 wr wg li ca va cn px go gi gn f a (t9_0, t9_1, t9_2) (t10_0, t10_1, t10_2, t10_3, t10_4, t10_5, t10_6) e_t9 e_t10 h3 h14 h25 h30 h46 h57]
              exact W.vret hx hb hr (fun t ht hW => ⟨⟨(), rfl, trivial, by show va_P D classes _ t.heap; rw [ht]; exact hP⟩, hS.F ht⟩) hS.2.2 d_Mo_load_107 hlocks
            · refine lv_bipush (v := 32) hx hb d_Mo_load_60 (by decide) ?_
              refine lv_bipush (v := 8) hx hb d_Mo_load_62 (by decide) ?_
              refine lv_iload_n hx hb d_Mo_load_64 rfl (lv_at hl 0 rfl) ?_
              refine lv_imul hx hb d_Mo_load_65 ?_
              refine lv_isub hx hb d_Mo_load_66 ?_
              refine lv_istore (lv' := [(4, .int _), (3, .int _), (0, .ref _), (1, .int _), (2, .int _)]) hx hb d_Mo_load_67 hl (by decide) rfl (fun ls hl => ?_)
              refine lv_aload_n hx hb d_Mo_load_69 rfl (lv_at hl 2 rfl) ?_
              refine va_get (ci := 5) (C := R_Mo) (T := F_Mo) (N := 18) hx hb hg in_Mo hown hK hP 0 rfl rfl 14 (by decide) (hg _ m_517) (fun _ h => h) rfl d_Mo_load_70 ?_
              refine lv_bipush (v := 8) hx hb d_Mo_load_73 (by decide) ?_
              refine lv_iload_n hx hb d_Mo_load_75 rfl (lv_at hl 4 rfl) ?_
              refine lv_iconst (v := 4) hx hb d_Mo_load_76 (by decide) ?_
              refine lv_irem hx hb d_Mo_load_77 (by decide) ?_
              refine lv_imul hx hb d_Mo_load_78 ?_
              refine lv_ishr hx hb d_Mo_load_79 ?_
              refine lv_iload hx hb d_Mo_load_80 (lv_at hl 0 rfl) ?_
              refine lv_ishl hx hb d_Mo_load_82 ?_
              refine lv_topi (fun t11 e_t11 => ?_)
              have e_t11 := e_t11.symm
              refine lv_istore (lv' := [(5, .int _), (4, .int _), (3, .int _), (0, .ref _), (1, .int _), (2, .int _)]) hx hb d_Mo_load_83 hl (by decide) rfl (fun ls hl => ?_)
              refine lv_aload_n hx hb d_Mo_load_85 rfl (lv_at hl 3 rfl) ?_
              refine lv_iload_n hx hb d_Mo_load_86 rfl (lv_at hl 4 rfl) ?_
              refine lv_iconst (v := 4) hx hb d_Mo_load_87 (by decide) ?_
              refine lv_icmp_ge (tgt := 99) hx hb d_Mo_load_88 (by decide) (fun h88 => ?_) (fun h88 => ?_)
              · refine lv_iload hx hb d_Mo_load_99 (lv_at hl 0 rfl) ?_
                refine lv_iload hx hb d_Mo_load_101 (lv_at hl 1 rfl) ?_
                refine lv_iushr (v := u_ush _ _) hx hb d_Mo_load_103 rfl ?_
                refine cj_v (wc := (W_Mo cI cL b0 b1 b2 b3 b4 b5 b6 b7 ev wr t10_1 ke ma t10_2 ps pn cy t10_3 t10_4 t10_5 pp px t10_6 ne gi gn)) (w1 := (W_Mo cI cL b0 b1 b2 b3 b4 b5 b6 b7 ev wr t10_1 ke ma t10_2 ps pn cy t10_3 t10_4 t10_5 pp px t10_6 ne ((f_Mo_give gi gn (u_ush t11 ((32 : Int32) - ((8 : Int32) * (2 : Int32))))).1) ((f_Mo_give gi gn (u_ush t11 ((32 : Int32) - ((8 : Int32) * (2 : Int32))))).2))) hP hD hS hA [0, 1, 2, 3, 4, 5, 6, 7] rfl [b0, b1, b2, b3, b4, b5, b6, b7] rfl rfl (va_runV (rest := []) ⟨hx, hb, hml, hown, hg⟩ (c_Mo_give l D cI cL b0 b1 b2 b3 b4 b5 b6 b7 _ ev wr t10_1 ke ma t10_2 ps pn cy t10_3 t10_4 t10_5 pp px t10_6 ne gi gn (u_ush t11 ((32 : Int32) - ((8 : Int32) * (2 : Int32))))) ⟨callB_of 1 hg (gw_good m_645) rfl rfl rfl (hg _ m_71) (hg _ m_642) hd_Mo_give ⟨Nat.le_of_ble_eq_true rfl, Nat.le_of_ble_eq_true rfl⟩, hg _ m_644, hg _ m_47⟩ (pw_V hK hN hT hA hP hD hS [0, 1, 2, 3, 4, 5, 6, 7] rfl (by decide) (q0 := 0) (ci := 5) rfl rfl) rfl rfl hl.1 rfl (lv_room (Nat.le_of_ble_eq_true rfl)) d_Mo_load_104 ⟨Nat.le_of_ble_eq_true rfl, Nat.le_of_ble_eq_true rfl⟩) (fun H locs hP hD hS => ?_)
                have hP : va_P D classes (W_Mo cI cL b0 b1 b2 b3 b4 b5 b6 b7 ev wr t10_1 ke ma t10_2 ps pn cy t10_3 t10_4 t10_5 pp px t10_6 ne ((f_Mo_give gi gn (u_ush t11 ((32 : Int32) - ((8 : Int32) * (2 : Int32))))).1) ((f_Mo_give gi gn (u_ush t11 ((32 : Int32) - ((8 : Int32) * (2 : Int32))))).2)) H := hP
                have hD : va_D A (W_Mo cI cL b0 b1 b2 b3 b4 b5 b6 b7 ev wr t10_1 ke ma t10_2 ps pn cy t10_3 t10_4 t10_5 pp px t10_6 ne ((f_Mo_give gi gn (u_ush t11 ((32 : Int32) - ((8 : Int32) * (2 : Int32))))).1) ((f_Mo_give gi gn (u_ush t11 ((32 : Int32) - ((8 : Int32) * (2 : Int32))))).2)) := hD
                generalize e_t12 : f_Mo_give gi gn (u_ush t11 ((32 : Int32) - ((8 : Int32) * (2 : Int32)))) = t12 at hP hD ⊢
                obtain ⟨t12_0, t12_1⟩ := t12
                have hP : va_P D classes (W_Mo cI cL b0 b1 b2 b3 b4 b5 b6 b7 ev wr t10_1 ke ma t10_2 ps pn cy t10_3 t10_4 t10_5 pp px t10_6 ne t12_0 t12_1) H := hP
                have hD : va_D A (W_Mo cI cL b0 b1 b2 b3 b4 b5 b6 b7 ev wr t10_1 ke ma t10_2 ps pn cy t10_3 t10_4 t10_5 pp px t10_6 ne t12_0 t12_1) := hD
                rw [f_Mo_load_e9 wr wg li ca va cn px go gi gn f a (t9_0, t9_1, t9_2) (t10_0, t10_1, t10_2, t10_3, t10_4, t10_5, t10_6) t11 (t12_0, t12_1) e_t9 e_t10 e_t11 e_t12 h3 h14 h25 h30 h46 h57 h88]
                exact W.vret hx hb hr (fun t ht hW => ⟨⟨(), rfl, trivial, by show va_P D classes _ t.heap; rw [ht]; exact hP⟩, hS.F ht⟩) hS.2.2 d_Mo_load_107 hlocks
              · refine lv_iload hx hb d_Mo_load_91 (lv_at hl 0 rfl) ?_
                refine lv_iload hx hb d_Mo_load_93 (lv_at hl 1 rfl) ?_
                refine lv_ishr hx hb d_Mo_load_95 ?_
                refine lv_goto (tgt := 104) hx hb d_Mo_load_96 (by decide) ?_
                refine cj_v (wc := (W_Mo cI cL b0 b1 b2 b3 b4 b5 b6 b7 ev wr t10_1 ke ma t10_2 ps pn cy t10_3 t10_4 t10_5 pp px t10_6 ne gi gn)) (w1 := (W_Mo cI cL b0 b1 b2 b3 b4 b5 b6 b7 ev wr t10_1 ke ma t10_2 ps pn cy t10_3 t10_4 t10_5 pp px t10_6 ne ((f_Mo_give gi gn (t11 >>> (((32 : Int32) - ((8 : Int32) * (2 : Int32))) &&& 31))).1) ((f_Mo_give gi gn (t11 >>> (((32 : Int32) - ((8 : Int32) * (2 : Int32))) &&& 31))).2))) hP hD hS hA [0, 1, 2, 3, 4, 5, 6, 7] rfl [b0, b1, b2, b3, b4, b5, b6, b7] rfl rfl (va_runV (rest := []) ⟨hx, hb, hml, hown, hg⟩ (c_Mo_give l D cI cL b0 b1 b2 b3 b4 b5 b6 b7 _ ev wr t10_1 ke ma t10_2 ps pn cy t10_3 t10_4 t10_5 pp px t10_6 ne gi gn (t11 >>> (((32 : Int32) - ((8 : Int32) * (2 : Int32))) &&& 31))) ⟨callB_of 1 hg (gw_good m_645) rfl rfl rfl (hg _ m_71) (hg _ m_642) hd_Mo_give ⟨Nat.le_of_ble_eq_true rfl, Nat.le_of_ble_eq_true rfl⟩, hg _ m_644, hg _ m_47⟩ (pw_V hK hN hT hA hP hD hS [0, 1, 2, 3, 4, 5, 6, 7] rfl (by decide) (q0 := 0) (ci := 5) rfl rfl) rfl rfl hl.1 rfl (lv_room (Nat.le_of_ble_eq_true rfl)) d_Mo_load_104 ⟨Nat.le_of_ble_eq_true rfl, Nat.le_of_ble_eq_true rfl⟩) (fun H locs hP hD hS => ?_)
                have hP : va_P D classes (W_Mo cI cL b0 b1 b2 b3 b4 b5 b6 b7 ev wr t10_1 ke ma t10_2 ps pn cy t10_3 t10_4 t10_5 pp px t10_6 ne ((f_Mo_give gi gn (t11 >>> (((32 : Int32) - ((8 : Int32) * (2 : Int32))) &&& 31))).1) ((f_Mo_give gi gn (t11 >>> (((32 : Int32) - ((8 : Int32) * (2 : Int32))) &&& 31))).2)) H := hP
                have hD : va_D A (W_Mo cI cL b0 b1 b2 b3 b4 b5 b6 b7 ev wr t10_1 ke ma t10_2 ps pn cy t10_3 t10_4 t10_5 pp px t10_6 ne ((f_Mo_give gi gn (t11 >>> (((32 : Int32) - ((8 : Int32) * (2 : Int32))) &&& 31))).1) ((f_Mo_give gi gn (t11 >>> (((32 : Int32) - ((8 : Int32) * (2 : Int32))) &&& 31))).2)) := hD
                generalize e_t13 : f_Mo_give gi gn (t11 >>> (((32 : Int32) - ((8 : Int32) * (2 : Int32))) &&& 31)) = t13 at hP hD ⊢
                obtain ⟨t13_0, t13_1⟩ := t13
                have hP : va_P D classes (W_Mo cI cL b0 b1 b2 b3 b4 b5 b6 b7 ev wr t10_1 ke ma t10_2 ps pn cy t10_3 t10_4 t10_5 pp px t10_6 ne t13_0 t13_1) H := hP
                have hD : va_D A (W_Mo cI cL b0 b1 b2 b3 b4 b5 b6 b7 ev wr t10_1 ke ma t10_2 ps pn cy t10_3 t10_4 t10_5 pp px t10_6 ne t13_0 t13_1) := hD
                rw [f_Mo_load_e10 wr wg li ca va cn px go gi gn f a (t9_0, t9_1, t9_2) (t10_0, t10_1, t10_2, t10_3, t10_4, t10_5, t10_6) t11 (t13_0, t13_1) e_t9 e_t10 e_t11 e_t13 h3 h14 h25 h30 h46 h57 h88]
                exact W.vret hx hb hr (fun t ht hW => ⟨⟨(), rfl, trivial, by show va_P D classes _ t.heap; rw [ht]; exact hP⟩, hS.F ht⟩) hS.2.2 d_Mo_load_107 hlocks
        · refine lv_aload_n hx hb d_Mo_load_33 rfl (lv_at hl 1 rfl) ?_
          refine cj_v (wc := (W_Mo cI cL b0 b1 b2 b3 b4 b5 b6 b7 ev wr wg ke ma li ps pn cy ca va cn pp px go ne gi gn)) (w1 := (W_Mo cI cL b0 b1 b2 b3 b4 b5 b6 b7 ev wr wg ke ma li ps pn cy ((f_Mo_illegal ca va px).1) ((f_Mo_illegal ca va px).2) cn pp px go ne gi gn)) hP hD hS hA [0, 1, 2, 3, 4, 5, 6, 7] rfl [b0, b1, b2, b3, b4, b5, b6, b7] rfl rfl (va_runV (rest := []) ⟨hx, hb, hml, hown, hg⟩ (c_Mo_illegal l D cI cL b0 b1 b2 b3 b4 b5 b6 b7 _ ev wr wg ke ma li ps pn cy ca va cn pp px go ne gi gn) ⟨callB_of 0 hg (gw_good m_661) rfl rfl rfl (hg _ m_71) (hg _ m_658) hd_Mo_illegal ⟨Nat.le_of_ble_eq_true rfl, Nat.le_of_ble_eq_true rfl⟩, hg _ m_660, hg _ m_51⟩ (pw_V hK hN hT hA hP hD hS [0, 1, 2, 3, 4, 5, 6, 7] rfl (by decide) (q0 := 0) (ci := 5) rfl rfl) rfl rfl hl.1 rfl (lv_room (Nat.le_of_ble_eq_true rfl)) d_Mo_load_34 ⟨Nat.le_of_ble_eq_true rfl, Nat.le_of_ble_eq_true rfl⟩) (fun H locs hP hD hS => ?_)
          have hP : va_P D classes (W_Mo cI cL b0 b1 b2 b3 b4 b5 b6 b7 ev wr wg ke ma li ps pn cy ((f_Mo_illegal ca va px).1) ((f_Mo_illegal ca va px).2) cn pp px go ne gi gn) H := hP
          have hD : va_D A (W_Mo cI cL b0 b1 b2 b3 b4 b5 b6 b7 ev wr wg ke ma li ps pn cy ((f_Mo_illegal ca va px).1) ((f_Mo_illegal ca va px).2) cn pp px go ne gi gn) := hD
          generalize e_t14 : f_Mo_illegal ca va px = t14 at hP hD ⊢
          obtain ⟨t14_0, t14_1⟩ := t14
          have hP : va_P D classes (W_Mo cI cL b0 b1 b2 b3 b4 b5 b6 b7 ev wr wg ke ma li ps pn cy t14_0 t14_1 cn pp px go ne gi gn) H := hP
          have hD : va_D A (W_Mo cI cL b0 b1 b2 b3 b4 b5 b6 b7 ev wr wg ke ma li ps pn cy t14_0 t14_1 cn pp px go ne gi gn) := hD
          refine lv_goto (tgt := 107) hx hb d_Mo_load_37 (by decide) ?_
          rw [f_Mo_load_e11 wr wg li ca va cn px go gi gn f a (t14_0, t14_1) e_t14 h3 h14 h25 h30]
          exact W.vret hx hb hr (fun t ht hW => ⟨⟨(), rfl, trivial, by show va_P D classes _ t.heap; rw [ht]; exact hP⟩, hS.F ht⟩) hS.2.2 d_Mo_load_107 hlocks
  · refine lv_iconst (v := 1) hx hb d_Mo_load_6 (by decide) ?_
    refine lv_goto (tgt := 22) hx hb d_Mo_load_7 (by decide) ?_
    refine lv_istore_n (lv' := [(3, .int _), (0, .ref _), (1, .int _), (2, .int _)]) hx hb d_Mo_load_22 rfl hl (by decide) rfl (fun ls hl => ?_)
    refine lv_iload_n hx hb d_Mo_load_23 rfl (lv_at hl 2 rfl) ?_
    refine lv_iconst (v := 3) hx hb d_Mo_load_24 (by decide) ?_
    refine lv_icmp_eq (tgt := 33) hx hb d_Mo_load_25 (by decide) (fun h25 => ?_) (fun h25 => ?_)
    · refine lv_aload_n hx hb d_Mo_load_33 rfl (lv_at hl 1 rfl) ?_
      refine cj_v (wc := (W_Mo cI cL b0 b1 b2 b3 b4 b5 b6 b7 ev wr wg ke ma li ps pn cy ca va cn pp px go ne gi gn)) (w1 := (W_Mo cI cL b0 b1 b2 b3 b4 b5 b6 b7 ev wr wg ke ma li ps pn cy ((f_Mo_illegal ca va px).1) ((f_Mo_illegal ca va px).2) cn pp px go ne gi gn)) hP hD hS hA [0, 1, 2, 3, 4, 5, 6, 7] rfl [b0, b1, b2, b3, b4, b5, b6, b7] rfl rfl (va_runV (rest := []) ⟨hx, hb, hml, hown, hg⟩ (c_Mo_illegal l D cI cL b0 b1 b2 b3 b4 b5 b6 b7 _ ev wr wg ke ma li ps pn cy ca va cn pp px go ne gi gn) ⟨callB_of 0 hg (gw_good m_661) rfl rfl rfl (hg _ m_71) (hg _ m_658) hd_Mo_illegal ⟨Nat.le_of_ble_eq_true rfl, Nat.le_of_ble_eq_true rfl⟩, hg _ m_660, hg _ m_51⟩ (pw_V hK hN hT hA hP hD hS [0, 1, 2, 3, 4, 5, 6, 7] rfl (by decide) (q0 := 0) (ci := 5) rfl rfl) rfl rfl hl.1 rfl (lv_room (Nat.le_of_ble_eq_true rfl)) d_Mo_load_34 ⟨Nat.le_of_ble_eq_true rfl, Nat.le_of_ble_eq_true rfl⟩) (fun H locs hP hD hS => ?_)
      have hP : va_P D classes (W_Mo cI cL b0 b1 b2 b3 b4 b5 b6 b7 ev wr wg ke ma li ps pn cy ((f_Mo_illegal ca va px).1) ((f_Mo_illegal ca va px).2) cn pp px go ne gi gn) H := hP
      have hD : va_D A (W_Mo cI cL b0 b1 b2 b3 b4 b5 b6 b7 ev wr wg ke ma li ps pn cy ((f_Mo_illegal ca va px).1) ((f_Mo_illegal ca va px).2) cn pp px go ne gi gn) := hD
      generalize e_t15 : f_Mo_illegal ca va px = t15 at hP hD ⊢
      obtain ⟨t15_0, t15_1⟩ := t15
      have hP : va_P D classes (W_Mo cI cL b0 b1 b2 b3 b4 b5 b6 b7 ev wr wg ke ma li ps pn cy t15_0 t15_1 cn pp px go ne gi gn) H := hP
      have hD : va_D A (W_Mo cI cL b0 b1 b2 b3 b4 b5 b6 b7 ev wr wg ke ma li ps pn cy t15_0 t15_1 cn pp px go ne gi gn) := hD
      refine lv_goto (tgt := 107) hx hb d_Mo_load_37 (by decide) ?_
      rw [f_Mo_load_e12 wr wg li ca va cn px go gi gn f a (t15_0, t15_1) e_t15 h3 h25]
      exact W.vret hx hb hr (fun t ht hW => ⟨⟨(), rfl, trivial, by show va_P D classes _ t.heap; rw [ht]; exact hP⟩, hS.F ht⟩) hS.2.2 d_Mo_load_107 hlocks
    · refine lv_iload_n hx hb d_Mo_load_28 rfl (lv_at hl 2 rfl) ?_
      refine lv_iconst (v := 5) hx hb d_Mo_load_29 (by decide) ?_
      refine lv_icmp_le (tgt := 40) hx hb d_Mo_load_30 (by decide) (fun h30 => ?_) (fun h30 => ?_)
      · refine lv_aload_n hx hb d_Mo_load_40 rfl (lv_at hl 1 rfl) ?_
        refine lv_iload_n hx hb d_Mo_load_41 rfl (lv_at hl 3 rfl) ?_
        refine lv_iload_n hx hb d_Mo_load_42 rfl (lv_at hl 0 rfl) ?_
        refine cj_i (wc := (W_Mo cI cL b0 b1 b2 b3 b4 b5 b6 b7 ev wr wg ke ma li ps pn cy ca va cn pp px go ne gi gn)) (w1 := (W_Mo cI cL b0 b1 b2 b3 b4 b5 b6 b7 ev wr wg ke ma li ps pn cy ((f_Mo_reaches ca va a (1 : Int32)).2.1) ((f_Mo_reaches ca va a (1 : Int32)).2.2) cn pp px go ne gi gn)) hP hD hS hA [0, 1, 2, 3, 4, 5, 6, 7] rfl [b0, b1, b2, b3, b4, b5, b6, b7] rfl rfl (va_runV (rest := []) ⟨hx, hb, hml, hown, hg⟩ (c_Mo_reaches l D cI cL b0 b1 b2 b3 b4 b5 b6 b7 _ ev wr wg ke ma li ps pn cy ca va cn pp px go ne gi gn a (1 : Int32) (by decide)) ⟨callB_of 2 hg (gw_good m_680) rfl rfl rfl (hg _ m_71) (hg _ m_677) hd_Mo_reaches ⟨Nat.le_of_ble_eq_true rfl, Nat.le_of_ble_eq_true rfl⟩, hg _ m_679, hg _ m_55⟩ (pw_V hK hN hT hA hP hD hS [0, 1, 2, 3, 4, 5, 6, 7] rfl (by decide) (q0 := 0) (ci := 5) rfl rfl) rfl rfl hl.1 rfl (lv_room (Nat.le_of_ble_eq_true rfl)) d_Mo_load_43 ⟨Nat.le_of_ble_eq_true rfl, Nat.le_of_ble_eq_true rfl⟩) (fun H locs hP hD hS => ?_)
        have hP : va_P D classes (W_Mo cI cL b0 b1 b2 b3 b4 b5 b6 b7 ev wr wg ke ma li ps pn cy ((f_Mo_reaches ca va a (1 : Int32)).2.1) ((f_Mo_reaches ca va a (1 : Int32)).2.2) cn pp px go ne gi gn) H := hP
        have hD : va_D A (W_Mo cI cL b0 b1 b2 b3 b4 b5 b6 b7 ev wr wg ke ma li ps pn cy ((f_Mo_reaches ca va a (1 : Int32)).2.1) ((f_Mo_reaches ca va a (1 : Int32)).2.2) cn pp px go ne gi gn) := hD
        generalize e_t16 : f_Mo_reaches ca va a (1 : Int32) = t16 at hP hD ⊢
        obtain ⟨t16_0, t16_1, t16_2⟩ := t16
        have hP : va_P D classes (W_Mo cI cL b0 b1 b2 b3 b4 b5 b6 b7 ev wr wg ke ma li ps pn cy t16_1 t16_2 cn pp px go ne gi gn) H := hP
        have hD : va_D A (W_Mo cI cL b0 b1 b2 b3 b4 b5 b6 b7 ev wr wg ke ma li ps pn cy t16_1 t16_2 cn pp px go ne gi gn) := hD
        refine W.eq (g2 := F0 m 46 ls (.int t16_0 :: [])) rfl ?_
        refine lv_if_eq (tgt := 107) hx hb d_Mo_load_46 (by decide) (fun h46 => ?_) (fun h46 => ?_)
        · rw [f_Mo_load_e13 wr wg li ca va cn px go gi gn f a (t16_0, t16_1, t16_2) e_t16 h3 h25 h30 h46]
          exact W.vret hx hb hr (fun t ht hW => ⟨⟨(), rfl, trivial, by show va_P D classes _ t.heap; rw [ht]; exact hP⟩, hS.F ht⟩) hS.2.2 d_Mo_load_107 hlocks
        · refine lv_aload_n hx hb d_Mo_load_49 rfl (lv_at hl 1 rfl) ?_
          refine lv_iconst (v := 1) hx hb d_Mo_load_50 (by decide) ?_
          refine lv_iload_n hx hb d_Mo_load_51 rfl (lv_at hl 3 rfl) ?_
          refine lv_iconst (v := 4) hx hb d_Mo_load_52 (by decide) ?_
          refine lv_idiv hx hb d_Mo_load_53 (by decide) ?_
          refine cj_i (wc := (W_Mo cI cL b0 b1 b2 b3 b4 b5 b6 b7 ev wr wg ke ma li ps pn cy t16_1 t16_2 cn pp px go ne gi gn)) (w1 := (W_Mo cI cL b0 b1 b2 b3 b4 b5 b6 b7 ev wr ((f_Mo_fetch wr wg li t16_1 t16_2 cn go (1 : Int32) (a / (4 : Int32))).2.1) ke ma ((f_Mo_fetch wr wg li t16_1 t16_2 cn go (1 : Int32) (a / (4 : Int32))).2.2.1) ps pn cy ((f_Mo_fetch wr wg li t16_1 t16_2 cn go (1 : Int32) (a / (4 : Int32))).2.2.2.1) ((f_Mo_fetch wr wg li t16_1 t16_2 cn go (1 : Int32) (a / (4 : Int32))).2.2.2.2.1) ((f_Mo_fetch wr wg li t16_1 t16_2 cn go (1 : Int32) (a / (4 : Int32))).2.2.2.2.2.1) pp px ((f_Mo_fetch wr wg li t16_1 t16_2 cn go (1 : Int32) (a / (4 : Int32))).2.2.2.2.2.2) ne gi gn)) hP hD hS hA [0, 1, 2, 3, 4, 5, 6, 7] rfl [b0, b1, b2, b3, b4, b5, b6, b7] rfl rfl (va_runV (rest := []) ⟨hx, hb, hml, hown, hg⟩ (c_Mo_fetch l D cI cL b0 b1 b2 b3 b4 b5 b6 b7 _ ev wr wg ke ma li ps pn cy t16_1 t16_2 cn pp px go ne gi gn (1 : Int32) (a / (4 : Int32)) (vp_ofb (by decide)) (in_reachT e_t16 h46)) ⟨callB_of 2 hg (gw_good m_599) rfl rfl rfl (hg _ m_71) (hg _ m_596) hd_Mo_fetch ⟨Nat.le_of_ble_eq_true rfl, Nat.le_of_ble_eq_true rfl⟩, hg _ m_598, hg _ m_41⟩ (pw_V hK hN hT hA hP hD hS [0, 1, 2, 3, 4, 5, 6, 7] rfl (by decide) (q0 := 0) (ci := 5) rfl rfl) rfl rfl hl.1 rfl (lv_room (Nat.le_of_ble_eq_true rfl)) d_Mo_load_54 ⟨Nat.le_of_ble_eq_true rfl, Nat.le_of_ble_eq_true rfl⟩) (fun H locs hP hD hS => ?_)
          have hP : va_P D classes (W_Mo cI cL b0 b1 b2 b3 b4 b5 b6 b7 ev wr ((f_Mo_fetch wr wg li t16_1 t16_2 cn go (1 : Int32) (a / (4 : Int32))).2.1) ke ma ((f_Mo_fetch wr wg li t16_1 t16_2 cn go (1 : Int32) (a / (4 : Int32))).2.2.1) ps pn cy ((f_Mo_fetch wr wg li t16_1 t16_2 cn go (1 : Int32) (a / (4 : Int32))).2.2.2.1) ((f_Mo_fetch wr wg li t16_1 t16_2 cn go (1 : Int32) (a / (4 : Int32))).2.2.2.2.1) ((f_Mo_fetch wr wg li t16_1 t16_2 cn go (1 : Int32) (a / (4 : Int32))).2.2.2.2.2.1) pp px ((f_Mo_fetch wr wg li t16_1 t16_2 cn go (1 : Int32) (a / (4 : Int32))).2.2.2.2.2.2) ne gi gn) H := hP
          have hD : va_D A (W_Mo cI cL b0 b1 b2 b3 b4 b5 b6 b7 ev wr ((f_Mo_fetch wr wg li t16_1 t16_2 cn go (1 : Int32) (a / (4 : Int32))).2.1) ke ma ((f_Mo_fetch wr wg li t16_1 t16_2 cn go (1 : Int32) (a / (4 : Int32))).2.2.1) ps pn cy ((f_Mo_fetch wr wg li t16_1 t16_2 cn go (1 : Int32) (a / (4 : Int32))).2.2.2.1) ((f_Mo_fetch wr wg li t16_1 t16_2 cn go (1 : Int32) (a / (4 : Int32))).2.2.2.2.1) ((f_Mo_fetch wr wg li t16_1 t16_2 cn go (1 : Int32) (a / (4 : Int32))).2.2.2.2.2.1) pp px ((f_Mo_fetch wr wg li t16_1 t16_2 cn go (1 : Int32) (a / (4 : Int32))).2.2.2.2.2.2) ne gi gn) := hD
          generalize e_t17 : f_Mo_fetch wr wg li t16_1 t16_2 cn go (1 : Int32) (a / (4 : Int32)) = t17 at hP hD ⊢
          obtain ⟨t17_0, t17_1, t17_2, t17_3, t17_4, t17_5, t17_6⟩ := t17
          have hP : va_P D classes (W_Mo cI cL b0 b1 b2 b3 b4 b5 b6 b7 ev wr t17_1 ke ma t17_2 ps pn cy t17_3 t17_4 t17_5 pp px t17_6 ne gi gn) H := hP
          have hD : va_D A (W_Mo cI cL b0 b1 b2 b3 b4 b5 b6 b7 ev wr t17_1 ke ma t17_2 ps pn cy t17_3 t17_4 t17_5 pp px t17_6 ne gi gn) := hD
          refine W.eq (g2 := F0 m 57 ls (.int t17_0 :: [])) rfl ?_
          refine lv_if_eq (tgt := 107) hx hb d_Mo_load_57 (by decide) (fun h57 => ?_) (fun h57 => ?_)
          · rw [f_Mo_load_e14 wr wg li ca va cn px go gi gn f a (t16_0, t16_1, t16_2) (t17_0, t17_1, t17_2, t17_3, t17_4, t17_5, t17_6) e_t16 e_t17 h3 h25 h30 h46 h57]
            exact W.vret hx hb hr (fun t ht hW => ⟨⟨(), rfl, trivial, by show va_P D classes _ t.heap; rw [ht]; exact hP⟩, hS.F ht⟩) hS.2.2 d_Mo_load_107 hlocks
          · refine lv_bipush (v := 32) hx hb d_Mo_load_60 (by decide) ?_
            refine lv_bipush (v := 8) hx hb d_Mo_load_62 (by decide) ?_
            refine lv_iload_n hx hb d_Mo_load_64 rfl (lv_at hl 0 rfl) ?_
            refine lv_imul hx hb d_Mo_load_65 ?_
            refine lv_isub hx hb d_Mo_load_66 ?_
            refine lv_istore (lv' := [(4, .int _), (3, .int _), (0, .ref _), (1, .int _), (2, .int _)]) hx hb d_Mo_load_67 hl (by decide) rfl (fun ls hl => ?_)
            refine lv_aload_n hx hb d_Mo_load_69 rfl (lv_at hl 2 rfl) ?_
            refine va_get (ci := 5) (C := R_Mo) (T := F_Mo) (N := 18) hx hb hg in_Mo hown hK hP 0 rfl rfl 14 (by decide) (hg _ m_517) (fun _ h => h) rfl d_Mo_load_70 ?_
            refine lv_bipush (v := 8) hx hb d_Mo_load_73 (by decide) ?_
            refine lv_iload_n hx hb d_Mo_load_75 rfl (lv_at hl 4 rfl) ?_
            refine lv_iconst (v := 4) hx hb d_Mo_load_76 (by decide) ?_
            refine lv_irem hx hb d_Mo_load_77 (by decide) ?_
            refine lv_imul hx hb d_Mo_load_78 ?_
            refine lv_ishr hx hb d_Mo_load_79 ?_
            refine lv_iload hx hb d_Mo_load_80 (lv_at hl 0 rfl) ?_
            refine lv_ishl hx hb d_Mo_load_82 ?_
            refine lv_topi (fun t18 e_t18 => ?_)
            have e_t18 := e_t18.symm
            refine lv_istore (lv' := [(5, .int _), (4, .int _), (3, .int _), (0, .ref _), (1, .int _), (2, .int _)]) hx hb d_Mo_load_83 hl (by decide) rfl (fun ls hl => ?_)
            refine lv_aload_n hx hb d_Mo_load_85 rfl (lv_at hl 3 rfl) ?_
            refine lv_iload_n hx hb d_Mo_load_86 rfl (lv_at hl 4 rfl) ?_
            refine lv_iconst (v := 4) hx hb d_Mo_load_87 (by decide) ?_
            refine lv_icmp_ge (tgt := 99) hx hb d_Mo_load_88 (by decide) (fun h88 => ?_) (fun h88 => ?_)
            · refine lv_iload hx hb d_Mo_load_99 (lv_at hl 0 rfl) ?_
              refine lv_iload hx hb d_Mo_load_101 (lv_at hl 1 rfl) ?_
              refine lv_iushr (v := u_ush _ _) hx hb d_Mo_load_103 rfl ?_
              refine cj_v (wc := (W_Mo cI cL b0 b1 b2 b3 b4 b5 b6 b7 ev wr t17_1 ke ma t17_2 ps pn cy t17_3 t17_4 t17_5 pp px t17_6 ne gi gn)) (w1 := (W_Mo cI cL b0 b1 b2 b3 b4 b5 b6 b7 ev wr t17_1 ke ma t17_2 ps pn cy t17_3 t17_4 t17_5 pp px t17_6 ne ((f_Mo_give gi gn (u_ush t18 ((32 : Int32) - ((8 : Int32) * (1 : Int32))))).1) ((f_Mo_give gi gn (u_ush t18 ((32 : Int32) - ((8 : Int32) * (1 : Int32))))).2))) hP hD hS hA [0, 1, 2, 3, 4, 5, 6, 7] rfl [b0, b1, b2, b3, b4, b5, b6, b7] rfl rfl (va_runV (rest := []) ⟨hx, hb, hml, hown, hg⟩ (c_Mo_give l D cI cL b0 b1 b2 b3 b4 b5 b6 b7 _ ev wr t17_1 ke ma t17_2 ps pn cy t17_3 t17_4 t17_5 pp px t17_6 ne gi gn (u_ush t18 ((32 : Int32) - ((8 : Int32) * (1 : Int32))))) ⟨callB_of 1 hg (gw_good m_645) rfl rfl rfl (hg _ m_71) (hg _ m_642) hd_Mo_give ⟨Nat.le_of_ble_eq_true rfl, Nat.le_of_ble_eq_true rfl⟩, hg _ m_644, hg _ m_47⟩ (pw_V hK hN hT hA hP hD hS [0, 1, 2, 3, 4, 5, 6, 7] rfl (by decide) (q0 := 0) (ci := 5) rfl rfl) rfl rfl hl.1 rfl (lv_room (Nat.le_of_ble_eq_true rfl)) d_Mo_load_104 ⟨Nat.le_of_ble_eq_true rfl, Nat.le_of_ble_eq_true rfl⟩) (fun H locs hP hD hS => ?_)
              have hP : va_P D classes (W_Mo cI cL b0 b1 b2 b3 b4 b5 b6 b7 ev wr t17_1 ke ma t17_2 ps pn cy t17_3 t17_4 t17_5 pp px t17_6 ne ((f_Mo_give gi gn (u_ush t18 ((32 : Int32) - ((8 : Int32) * (1 : Int32))))).1) ((f_Mo_give gi gn (u_ush t18 ((32 : Int32) - ((8 : Int32) * (1 : Int32))))).2)) H := hP
              have hD : va_D A (W_Mo cI cL b0 b1 b2 b3 b4 b5 b6 b7 ev wr t17_1 ke ma t17_2 ps pn cy t17_3 t17_4 t17_5 pp px t17_6 ne ((f_Mo_give gi gn (u_ush t18 ((32 : Int32) - ((8 : Int32) * (1 : Int32))))).1) ((f_Mo_give gi gn (u_ush t18 ((32 : Int32) - ((8 : Int32) * (1 : Int32))))).2)) := hD
              generalize e_t19 : f_Mo_give gi gn (u_ush t18 ((32 : Int32) - ((8 : Int32) * (1 : Int32)))) = t19 at hP hD ⊢
              obtain ⟨t19_0, t19_1⟩ := t19
              have hP : va_P D classes (W_Mo cI cL b0 b1 b2 b3 b4 b5 b6 b7 ev wr t17_1 ke ma t17_2 ps pn cy t17_3 t17_4 t17_5 pp px t17_6 ne t19_0 t19_1) H := hP
              have hD : va_D A (W_Mo cI cL b0 b1 b2 b3 b4 b5 b6 b7 ev wr t17_1 ke ma t17_2 ps pn cy t17_3 t17_4 t17_5 pp px t17_6 ne t19_0 t19_1) := hD
              rw [f_Mo_load_e15 wr wg li ca va cn px go gi gn f a (t16_0, t16_1, t16_2) (t17_0, t17_1, t17_2, t17_3, t17_4, t17_5, t17_6) t18 (t19_0, t19_1) e_t16 e_t17 e_t18 e_t19 h3 h25 h30 h46 h57 h88]
              exact W.vret hx hb hr (fun t ht hW => ⟨⟨(), rfl, trivial, by show va_P D classes _ t.heap; rw [ht]; exact hP⟩, hS.F ht⟩) hS.2.2 d_Mo_load_107 hlocks
            · refine lv_iload hx hb d_Mo_load_91 (lv_at hl 0 rfl) ?_
              refine lv_iload hx hb d_Mo_load_93 (lv_at hl 1 rfl) ?_
              refine lv_ishr hx hb d_Mo_load_95 ?_
              refine lv_goto (tgt := 104) hx hb d_Mo_load_96 (by decide) ?_
              refine cj_v (wc := (W_Mo cI cL b0 b1 b2 b3 b4 b5 b6 b7 ev wr t17_1 ke ma t17_2 ps pn cy t17_3 t17_4 t17_5 pp px t17_6 ne gi gn)) (w1 := (W_Mo cI cL b0 b1 b2 b3 b4 b5 b6 b7 ev wr t17_1 ke ma t17_2 ps pn cy t17_3 t17_4 t17_5 pp px t17_6 ne ((f_Mo_give gi gn (t18 >>> (((32 : Int32) - ((8 : Int32) * (1 : Int32))) &&& 31))).1) ((f_Mo_give gi gn (t18 >>> (((32 : Int32) - ((8 : Int32) * (1 : Int32))) &&& 31))).2))) hP hD hS hA [0, 1, 2, 3, 4, 5, 6, 7] rfl [b0, b1, b2, b3, b4, b5, b6, b7] rfl rfl (va_runV (rest := []) ⟨hx, hb, hml, hown, hg⟩ (c_Mo_give l D cI cL b0 b1 b2 b3 b4 b5 b6 b7 _ ev wr t17_1 ke ma t17_2 ps pn cy t17_3 t17_4 t17_5 pp px t17_6 ne gi gn (t18 >>> (((32 : Int32) - ((8 : Int32) * (1 : Int32))) &&& 31))) ⟨callB_of 1 hg (gw_good m_645) rfl rfl rfl (hg _ m_71) (hg _ m_642) hd_Mo_give ⟨Nat.le_of_ble_eq_true rfl, Nat.le_of_ble_eq_true rfl⟩, hg _ m_644, hg _ m_47⟩ (pw_V hK hN hT hA hP hD hS [0, 1, 2, 3, 4, 5, 6, 7] rfl (by decide) (q0 := 0) (ci := 5) rfl rfl) rfl rfl hl.1 rfl (lv_room (Nat.le_of_ble_eq_true rfl)) d_Mo_load_104 ⟨Nat.le_of_ble_eq_true rfl, Nat.le_of_ble_eq_true rfl⟩) (fun H locs hP hD hS => ?_)
              have hP : va_P D classes (W_Mo cI cL b0 b1 b2 b3 b4 b5 b6 b7 ev wr t17_1 ke ma t17_2 ps pn cy t17_3 t17_4 t17_5 pp px t17_6 ne ((f_Mo_give gi gn (t18 >>> (((32 : Int32) - ((8 : Int32) * (1 : Int32))) &&& 31))).1) ((f_Mo_give gi gn (t18 >>> (((32 : Int32) - ((8 : Int32) * (1 : Int32))) &&& 31))).2)) H := hP
              have hD : va_D A (W_Mo cI cL b0 b1 b2 b3 b4 b5 b6 b7 ev wr t17_1 ke ma t17_2 ps pn cy t17_3 t17_4 t17_5 pp px t17_6 ne ((f_Mo_give gi gn (t18 >>> (((32 : Int32) - ((8 : Int32) * (1 : Int32))) &&& 31))).1) ((f_Mo_give gi gn (t18 >>> (((32 : Int32) - ((8 : Int32) * (1 : Int32))) &&& 31))).2)) := hD
              generalize e_t20 : f_Mo_give gi gn (t18 >>> (((32 : Int32) - ((8 : Int32) * (1 : Int32))) &&& 31)) = t20 at hP hD ⊢
              obtain ⟨t20_0, t20_1⟩ := t20
              have hP : va_P D classes (W_Mo cI cL b0 b1 b2 b3 b4 b5 b6 b7 ev wr t17_1 ke ma t17_2 ps pn cy t17_3 t17_4 t17_5 pp px t17_6 ne t20_0 t20_1) H := hP
              have hD : va_D A (W_Mo cI cL b0 b1 b2 b3 b4 b5 b6 b7 ev wr t17_1 ke ma t17_2 ps pn cy t17_3 t17_4 t17_5 pp px t17_6 ne t20_0 t20_1) := hD
              rw [f_Mo_load_e16 wr wg li ca va cn px go gi gn f a (t16_0, t16_1, t16_2) (t17_0, t17_1, t17_2, t17_3, t17_4, t17_5, t17_6) t18 (t20_0, t20_1) e_t16 e_t17 e_t18 e_t20 h3 h25 h30 h46 h57 h88]
              exact W.vret hx hb hr (fun t ht hW => ⟨⟨(), rfl, trivial, by show va_P D classes _ t.heap; rw [ht]; exact hP⟩, hS.F ht⟩) hS.2.2 d_Mo_load_107 hlocks
      · refine lv_aload_n hx hb d_Mo_load_33 rfl (lv_at hl 1 rfl) ?_
        refine cj_v (wc := (W_Mo cI cL b0 b1 b2 b3 b4 b5 b6 b7 ev wr wg ke ma li ps pn cy ca va cn pp px go ne gi gn)) (w1 := (W_Mo cI cL b0 b1 b2 b3 b4 b5 b6 b7 ev wr wg ke ma li ps pn cy ((f_Mo_illegal ca va px).1) ((f_Mo_illegal ca va px).2) cn pp px go ne gi gn)) hP hD hS hA [0, 1, 2, 3, 4, 5, 6, 7] rfl [b0, b1, b2, b3, b4, b5, b6, b7] rfl rfl (va_runV (rest := []) ⟨hx, hb, hml, hown, hg⟩ (c_Mo_illegal l D cI cL b0 b1 b2 b3 b4 b5 b6 b7 _ ev wr wg ke ma li ps pn cy ca va cn pp px go ne gi gn) ⟨callB_of 0 hg (gw_good m_661) rfl rfl rfl (hg _ m_71) (hg _ m_658) hd_Mo_illegal ⟨Nat.le_of_ble_eq_true rfl, Nat.le_of_ble_eq_true rfl⟩, hg _ m_660, hg _ m_51⟩ (pw_V hK hN hT hA hP hD hS [0, 1, 2, 3, 4, 5, 6, 7] rfl (by decide) (q0 := 0) (ci := 5) rfl rfl) rfl rfl hl.1 rfl (lv_room (Nat.le_of_ble_eq_true rfl)) d_Mo_load_34 ⟨Nat.le_of_ble_eq_true rfl, Nat.le_of_ble_eq_true rfl⟩) (fun H locs hP hD hS => ?_)
        have hP : va_P D classes (W_Mo cI cL b0 b1 b2 b3 b4 b5 b6 b7 ev wr wg ke ma li ps pn cy ((f_Mo_illegal ca va px).1) ((f_Mo_illegal ca va px).2) cn pp px go ne gi gn) H := hP
        have hD : va_D A (W_Mo cI cL b0 b1 b2 b3 b4 b5 b6 b7 ev wr wg ke ma li ps pn cy ((f_Mo_illegal ca va px).1) ((f_Mo_illegal ca va px).2) cn pp px go ne gi gn) := hD
        generalize e_t21 : f_Mo_illegal ca va px = t21 at hP hD ⊢
        obtain ⟨t21_0, t21_1⟩ := t21
        have hP : va_P D classes (W_Mo cI cL b0 b1 b2 b3 b4 b5 b6 b7 ev wr wg ke ma li ps pn cy t21_0 t21_1 cn pp px go ne gi gn) H := hP
        have hD : va_D A (W_Mo cI cL b0 b1 b2 b3 b4 b5 b6 b7 ev wr wg ke ma li ps pn cy t21_0 t21_1 cn pp px go ne gi gn) := hD
        refine lv_goto (tgt := 107) hx hb d_Mo_load_37 (by decide) ?_
        rw [f_Mo_load_e17 wr wg li ca va cn px go gi gn f a (t21_0, t21_1) e_t21 h3 h25 h30]
        exact W.vret hx hb hr (fun t ht hW => ⟨⟨(), rfl, trivial, by show va_P D classes _ t.heap; rw [ht]; exact hP⟩, hS.F ht⟩) hS.2.2 d_Mo_load_107 hlocks
abbrev q_Mo_reckoned (D : va_G) (cI cL : ClassId) (b0 b1 b2 b3 b4 b5 b6 b7 : Nat) (A : Nat → Prop) (ev : Int32) (wr : Nat → Int32) (wg : Nat → Int64) (ke : Nat → Int32) (ma : Nat → Int32) (li : Nat → Int64) (ps : Int32) (pn : Nat → Int32) (cy : Int32) (ca : Int32) (va : Int32) (cn : Nat → Int32) (pp : Int32) (px : Int32) (go : Int32) (ne : Int32) (gi : Int32) (gn : Int32) (F : Int32) : Array Value → State → Outcome → State → Prop := va_Qi (fun r (_ : Unit) => r = F) (fun _ t => va_P D classes (W_Mo cI cL b0 b1 b2 b3 b4 b5 b6 b7 ev wr wg ke ma li ps pn cy ca va cn pp px go ne gi gn) t.heap) A
theorem f_Mo_reckoned_e0 (f : Int32) (a : Int32) (b : Int32)  (h1_0 : f = (0 : Int32)) : f_Mo_reckoned f a b = ((a + b)) := by
  exact (if_pos h1_0)
theorem f_Mo_reckoned_e1 (f : Int32) (a : Int32) (b : Int32)  (h1_0 : ¬ f = (0 : Int32)) (h1_1 : f = (1 : Int32)) : f_Mo_reckoned f a b = ((a <<< ((b &&& (31 : Int32)) &&& 31))) := by
  exact ((if_neg h1_0).trans (if_pos h1_1))
theorem f_Mo_reckoned_e2 (f : Int32) (a : Int32) (b : Int32)  (h1_0 : ¬ f = (0 : Int32)) (h1_1 : ¬ f = (1 : Int32)) (h1_2 : f = (2 : Int32)) (h61 : (f_Mo_isLess a b (1 : Int32)) = 0) : f_Mo_reckoned f a b = ((0 : Int32)) := by
  exact ((if_neg h1_0).trans ((if_neg h1_1).trans ((if_pos h1_2).trans (if_pos h61))))
theorem f_Mo_reckoned_e3 (f : Int32) (a : Int32) (b : Int32)  (h1_0 : ¬ f = (0 : Int32)) (h1_1 : ¬ f = (1 : Int32)) (h1_2 : f = (2 : Int32)) (h61 : ¬ (f_Mo_isLess a b (1 : Int32)) = 0) : f_Mo_reckoned f a b = ((1 : Int32)) := by
  exact ((if_neg h1_0).trans ((if_neg h1_1).trans ((if_pos h1_2).trans (if_neg h61))))
theorem f_Mo_reckoned_e4 (f : Int32) (a : Int32) (b : Int32)  (h1_0 : ¬ f = (0 : Int32)) (h1_1 : ¬ f = (1 : Int32)) (h1_2 : ¬ f = (2 : Int32)) (h1_3 : f = (3 : Int32)) (h76 : (f_Mo_isLess a b (0 : Int32)) = 0) : f_Mo_reckoned f a b = ((0 : Int32)) := by
  exact ((if_neg h1_0).trans ((if_neg h1_1).trans ((if_neg h1_2).trans ((if_pos h1_3).trans (if_pos h76)))))
theorem f_Mo_reckoned_e5 (f : Int32) (a : Int32) (b : Int32)  (h1_0 : ¬ f = (0 : Int32)) (h1_1 : ¬ f = (1 : Int32)) (h1_2 : ¬ f = (2 : Int32)) (h1_3 : f = (3 : Int32)) (h76 : ¬ (f_Mo_isLess a b (0 : Int32)) = 0) : f_Mo_reckoned f a b = ((1 : Int32)) := by
  exact ((if_neg h1_0).trans ((if_neg h1_1).trans ((if_neg h1_2).trans ((if_pos h1_3).trans (if_neg h76)))))
theorem f_Mo_reckoned_e6 (f : Int32) (a : Int32) (b : Int32)  (h1_0 : ¬ f = (0 : Int32)) (h1_1 : ¬ f = (1 : Int32)) (h1_2 : ¬ f = (2 : Int32)) (h1_3 : ¬ f = (3 : Int32)) (h1_4 : f = (4 : Int32)) : f_Mo_reckoned f a b = ((a ^^^ b)) := by
  exact ((if_neg h1_0).trans ((if_neg h1_1).trans ((if_neg h1_2).trans ((if_neg h1_3).trans (if_pos h1_4)))))
theorem f_Mo_reckoned_e7 (f : Int32) (a : Int32) (b : Int32)  (h1_0 : ¬ f = (0 : Int32)) (h1_1 : ¬ f = (1 : Int32)) (h1_2 : ¬ f = (2 : Int32)) (h1_3 : ¬ f = (3 : Int32)) (h1_4 : ¬ f = (4 : Int32)) (h1_5 : f = (5 : Int32)) : f_Mo_reckoned f a b = ((u_ush a (b &&& (31 : Int32)))) := by
  exact ((if_neg h1_0).trans ((if_neg h1_1).trans ((if_neg h1_2).trans ((if_neg h1_3).trans ((if_neg h1_4).trans (if_pos h1_5))))))
theorem f_Mo_reckoned_e8 (f : Int32) (a : Int32) (b : Int32)  (h1_0 : ¬ f = (0 : Int32)) (h1_1 : ¬ f = (1 : Int32)) (h1_2 : ¬ f = (2 : Int32)) (h1_3 : ¬ f = (3 : Int32)) (h1_4 : ¬ f = (4 : Int32)) (h1_5 : ¬ f = (5 : Int32)) (h1_6 : f = (6 : Int32)) : f_Mo_reckoned f a b = ((a ||| b)) := by
  exact ((if_neg h1_0).trans ((if_neg h1_1).trans ((if_neg h1_2).trans ((if_neg h1_3).trans ((if_neg h1_4).trans ((if_neg h1_5).trans (if_pos h1_6)))))))
theorem f_Mo_reckoned_e9 (f : Int32) (a : Int32) (b : Int32)  (h1_0 : ¬ f = (0 : Int32)) (h1_1 : ¬ f = (1 : Int32)) (h1_2 : ¬ f = (2 : Int32)) (h1_3 : ¬ f = (3 : Int32)) (h1_4 : ¬ f = (4 : Int32)) (h1_5 : ¬ f = (5 : Int32)) (h1_6 : ¬ f = (6 : Int32)) : f_Mo_reckoned f a b = ((a &&& b)) := by
  exact ((if_neg h1_0).trans ((if_neg h1_1).trans ((if_neg h1_2).trans ((if_neg h1_3).trans ((if_neg h1_4).trans ((if_neg h1_5).trans (if_neg h1_6)))))))
set_option maxHeartbeats 4000000 in
set_option maxRecDepth 100000 in
theorem c_Mo_reckoned (l : Launch) (D : va_G) (cI cL : ClassId) (b0 b1 b2 b3 b4 b5 b6 b7 : Nat) (sz : Nat) (ev : Int32) (wr : Nat → Int32) (wg : Nat → Int64) (ke : Nat → Int32) (ma : Nat → Int32) (li : Nat → Int64) (ps : Int32) (pn : Nat → Int32) (cy : Int32) (ca : Int32) (va : Int32) (cn : Nat → Int32) (pp : Int32) (px : Int32) (go : Int32) (ne : Int32) (gi : Int32) (gn : Int32) (f : Int32) (a : Int32) (b : Int32)  : Met l y_Mo_reckoned w_Mo_reckoned ({ frames := 1, cells := 0, slots := 0, locals := 22 }) (va_Pc [.ref b0, .int f, .int a, .int b] (PW D cI cL (W_Mo cI cL b0 b1 b2 b3 b4 b5 b6 b7 ev wr wg ke ma li ps pn cy ca va cn pp px go ne gi gn) sz)) (q_Mo_reckoned D cI cL b0 b1 b2 b3 b4 b5 b6 b7 (va_A (W_Mo cI cL b0 b1 b2 b3 b4 b5 b6 b7 ev wr wg ke ma li ps pn cy ca va cn pp px go ne gi gn) sz) ev wr wg ke ma li ps pn cy ca va cn pp px go ne gi gn (f_Mo_reckoned f a b)) 0 0 (va_A (W_Mo cI cL b0 b1 b2 b3 b4 b5 b6 b7 ev wr wg ke ma li ps pn cy ca va cn pp px go ne gi gn) sz) := by
  refine mk_met (Qf := fun A => q_Mo_reckoned D cI cL b0 b1 b2 b3 b4 b5 b6 b7 A ev wr wg ke ma li ps pn cy ca va cn pp px go ne gi gn (f_Mo_reckoned f a b)) (by decide) (Nat.le_of_ble_eq_true rfl) ?_
  intro p e s m below meth c A ls hx hb hr hlocks hml hown hg hK hN hT hA hP hD hS hnm hl
  refine lv_iload_n hx hb d_Mo_reckoned_0 rfl (lv_at hl 1 rfl) ?_
  by_cases h1_0 : f = (0 : Int32)
  · refine lv_tableIn (tgt := 44) hx hb d_Mo_reckoned_1 (by rw [h1_0]; decide) (by rw [h1_0]; decide) (by rw [h1_0]; rfl) (by decide) ?_
    refine lv_iload_n hx hb d_Mo_reckoned_44 rfl (lv_at hl 2 rfl) ?_
    refine lv_iload_n hx hb d_Mo_reckoned_45 rfl (lv_at hl 3 rfl) ?_
    refine lv_iadd hx hb d_Mo_reckoned_46 ?_
    rw [f_Mo_reckoned_e0 f a b h1_0]
    exact W.iret hx hb hr (fun t ht hW => ⟨⟨_, (), rfl, rfl, by show va_P D classes _ t.heap; rw [ht]; exact hP⟩, hS.F ht⟩) hS.2.2 d_Mo_reckoned_47 hlocks
  · by_cases h1_1 : f = (1 : Int32)
    · refine lv_tableIn (tgt := 48) hx hb d_Mo_reckoned_1 (by rw [h1_1]; decide) (by rw [h1_1]; decide) (by rw [h1_1]; rfl) (by decide) ?_
      refine lv_iload_n hx hb d_Mo_reckoned_48 rfl (lv_at hl 2 rfl) ?_
      refine lv_iload_n hx hb d_Mo_reckoned_49 rfl (lv_at hl 3 rfl) ?_
      refine lv_bipush (v := 31) hx hb d_Mo_reckoned_50 (by decide) ?_
      refine lv_iand hx hb d_Mo_reckoned_52 ?_
      refine lv_ishl hx hb d_Mo_reckoned_53 ?_
      rw [f_Mo_reckoned_e1 f a b h1_0 h1_1]
      exact W.iret hx hb hr (fun t ht hW => ⟨⟨_, (), rfl, rfl, by show va_P D classes _ t.heap; rw [ht]; exact hP⟩, hS.F ht⟩) hS.2.2 d_Mo_reckoned_54 hlocks
    · by_cases h1_2 : f = (2 : Int32)
      · refine lv_tableIn (tgt := 55) hx hb d_Mo_reckoned_1 (by rw [h1_2]; decide) (by rw [h1_2]; decide) (by rw [h1_2]; rfl) (by decide) ?_
        refine lv_iload_n hx hb d_Mo_reckoned_55 rfl (lv_at hl 2 rfl) ?_
        refine lv_iload_n hx hb d_Mo_reckoned_56 rfl (lv_at hl 3 rfl) ?_
        refine lv_iconst (v := 1) hx hb d_Mo_reckoned_57 (by decide) ?_
        refine cj_i (wc := []) (w1 := []) hP hD hS hA [] rfl [] rfl rfl (va_runS (rest := []) ⟨hx, hb, hml, hown, hg⟩ (c_Mo_isLess l D cI cL  _ a b (1 : Int32)) ⟨callB_of 3 hg (gw_good m_668) rfl rfl rfl (hg _ m_71) (hg _ m_666) hd_Mo_isLess ⟨Nat.le_of_ble_eq_true rfl, Nat.le_of_ble_eq_true rfl⟩, hg _ m_667⟩ (pw_S hK hN hT hA hP hD hS [] rfl (by decide)) rfl rfl hl.1 rfl (lv_room (Nat.le_of_ble_eq_true rfl)) d_Mo_reckoned_58 ⟨Nat.le_of_ble_eq_true rfl, Nat.le_of_ble_eq_true rfl⟩) (fun H locs hP hD hS => ?_)
        have hP : va_P D classes (W_Mo cI cL b0 b1 b2 b3 b4 b5 b6 b7 ev wr wg ke ma li ps pn cy ca va cn pp px go ne gi gn) H := hP
        have hD : va_D A (W_Mo cI cL b0 b1 b2 b3 b4 b5 b6 b7 ev wr wg ke ma li ps pn cy ca va cn pp px go ne gi gn) := hD
        refine lv_if_eq (tgt := 68) hx hb d_Mo_reckoned_61 (by decide) (fun h61 => ?_) (fun h61 => ?_)
        · refine lv_iconst (v := 0) hx hb d_Mo_reckoned_68 (by decide) ?_
          rw [f_Mo_reckoned_e2 f a b h1_0 h1_1 h1_2 h61]
          exact W.iret hx hb hr (fun t ht hW => ⟨⟨_, (), rfl, rfl, by show va_P D classes _ t.heap; rw [ht]; exact hP⟩, hS.F ht⟩) hS.2.2 d_Mo_reckoned_69 hlocks
        · refine lv_iconst (v := 1) hx hb d_Mo_reckoned_64 (by decide) ?_
          refine lv_goto (tgt := 69) hx hb d_Mo_reckoned_65 (by decide) ?_
          rw [f_Mo_reckoned_e3 f a b h1_0 h1_1 h1_2 h61]
          exact W.iret hx hb hr (fun t ht hW => ⟨⟨_, (), rfl, rfl, by show va_P D classes _ t.heap; rw [ht]; exact hP⟩, hS.F ht⟩) hS.2.2 d_Mo_reckoned_69 hlocks
      · by_cases h1_3 : f = (3 : Int32)
        · refine lv_tableIn (tgt := 70) hx hb d_Mo_reckoned_1 (by rw [h1_3]; decide) (by rw [h1_3]; decide) (by rw [h1_3]; rfl) (by decide) ?_
          refine lv_iload_n hx hb d_Mo_reckoned_70 rfl (lv_at hl 2 rfl) ?_
          refine lv_iload_n hx hb d_Mo_reckoned_71 rfl (lv_at hl 3 rfl) ?_
          refine lv_iconst (v := 0) hx hb d_Mo_reckoned_72 (by decide) ?_
          refine cj_i (wc := []) (w1 := []) hP hD hS hA [] rfl [] rfl rfl (va_runS (rest := []) ⟨hx, hb, hml, hown, hg⟩ (c_Mo_isLess l D cI cL  _ a b (0 : Int32)) ⟨callB_of 3 hg (gw_good m_668) rfl rfl rfl (hg _ m_71) (hg _ m_666) hd_Mo_isLess ⟨Nat.le_of_ble_eq_true rfl, Nat.le_of_ble_eq_true rfl⟩, hg _ m_667⟩ (pw_S hK hN hT hA hP hD hS [] rfl (by decide)) rfl rfl hl.1 rfl (lv_room (Nat.le_of_ble_eq_true rfl)) d_Mo_reckoned_73 ⟨Nat.le_of_ble_eq_true rfl, Nat.le_of_ble_eq_true rfl⟩) (fun H locs hP hD hS => ?_)
          have hP : va_P D classes (W_Mo cI cL b0 b1 b2 b3 b4 b5 b6 b7 ev wr wg ke ma li ps pn cy ca va cn pp px go ne gi gn) H := hP
          have hD : va_D A (W_Mo cI cL b0 b1 b2 b3 b4 b5 b6 b7 ev wr wg ke ma li ps pn cy ca va cn pp px go ne gi gn) := hD
          refine lv_if_eq (tgt := 83) hx hb d_Mo_reckoned_76 (by decide) (fun h76 => ?_) (fun h76 => ?_)
          · refine lv_iconst (v := 0) hx hb d_Mo_reckoned_83 (by decide) ?_
            rw [f_Mo_reckoned_e4 f a b h1_0 h1_1 h1_2 h1_3 h76]
            exact W.iret hx hb hr (fun t ht hW => ⟨⟨_, (), rfl, rfl, by show va_P D classes _ t.heap; rw [ht]; exact hP⟩, hS.F ht⟩) hS.2.2 d_Mo_reckoned_84 hlocks
          · refine lv_iconst (v := 1) hx hb d_Mo_reckoned_79 (by decide) ?_
            refine lv_goto (tgt := 84) hx hb d_Mo_reckoned_80 (by decide) ?_
            rw [f_Mo_reckoned_e5 f a b h1_0 h1_1 h1_2 h1_3 h76]
            exact W.iret hx hb hr (fun t ht hW => ⟨⟨_, (), rfl, rfl, by show va_P D classes _ t.heap; rw [ht]; exact hP⟩, hS.F ht⟩) hS.2.2 d_Mo_reckoned_84 hlocks
        · by_cases h1_4 : f = (4 : Int32)
          · refine lv_tableIn (tgt := 85) hx hb d_Mo_reckoned_1 (by rw [h1_4]; decide) (by rw [h1_4]; decide) (by rw [h1_4]; rfl) (by decide) ?_
            refine lv_iload_n hx hb d_Mo_reckoned_85 rfl (lv_at hl 2 rfl) ?_
            refine lv_iload_n hx hb d_Mo_reckoned_86 rfl (lv_at hl 3 rfl) ?_
            refine lv_ixor hx hb d_Mo_reckoned_87 ?_
            rw [f_Mo_reckoned_e6 f a b h1_0 h1_1 h1_2 h1_3 h1_4]
            exact W.iret hx hb hr (fun t ht hW => ⟨⟨_, (), rfl, rfl, by show va_P D classes _ t.heap; rw [ht]; exact hP⟩, hS.F ht⟩) hS.2.2 d_Mo_reckoned_88 hlocks
          · by_cases h1_5 : f = (5 : Int32)
            · refine lv_tableIn (tgt := 89) hx hb d_Mo_reckoned_1 (by rw [h1_5]; decide) (by rw [h1_5]; decide) (by rw [h1_5]; rfl) (by decide) ?_
              refine lv_iload_n hx hb d_Mo_reckoned_89 rfl (lv_at hl 2 rfl) ?_
              refine lv_iload_n hx hb d_Mo_reckoned_90 rfl (lv_at hl 3 rfl) ?_
              refine lv_bipush (v := 31) hx hb d_Mo_reckoned_91 (by decide) ?_
              refine lv_iand hx hb d_Mo_reckoned_93 ?_
              refine lv_iushr (v := u_ush _ _) hx hb d_Mo_reckoned_94 rfl ?_
              rw [f_Mo_reckoned_e7 f a b h1_0 h1_1 h1_2 h1_3 h1_4 h1_5]
              exact W.iret hx hb hr (fun t ht hW => ⟨⟨_, (), rfl, rfl, by show va_P D classes _ t.heap; rw [ht]; exact hP⟩, hS.F ht⟩) hS.2.2 d_Mo_reckoned_95 hlocks
            · by_cases h1_6 : f = (6 : Int32)
              · refine lv_tableIn (tgt := 96) hx hb d_Mo_reckoned_1 (by rw [h1_6]; decide) (by rw [h1_6]; decide) (by rw [h1_6]; rfl) (by decide) ?_
                refine lv_iload_n hx hb d_Mo_reckoned_96 rfl (lv_at hl 2 rfl) ?_
                refine lv_iload_n hx hb d_Mo_reckoned_97 rfl (lv_at hl 3 rfl) ?_
                refine lv_ior hx hb d_Mo_reckoned_98 ?_
                rw [f_Mo_reckoned_e8 f a b h1_0 h1_1 h1_2 h1_3 h1_4 h1_5 h1_6]
                exact W.iret hx hb hr (fun t ht hW => ⟨⟨_, (), rfl, rfl, by show va_P D classes _ t.heap; rw [ht]; exact hP⟩, hS.F ht⟩) hS.2.2 d_Mo_reckoned_99 hlocks
              · refine lv_tableOut (tgt := 100) hx hb d_Mo_reckoned_1 (by have n0 := lv_neT (a := 0) h1_0 (by decide); have n1 := lv_neT (a := 1) h1_1 (by decide); have n2 := lv_neT (a := 2) h1_2 (by decide); have n3 := lv_neT (a := 3) h1_3 (by decide); have n4 := lv_neT (a := 4) h1_4 (by decide); have n5 := lv_neT (a := 5) h1_5 (by decide); have n6 := lv_neT (a := 6) h1_6 (by decide); omega) (by decide) ?_
                refine lv_iload_n hx hb d_Mo_reckoned_100 rfl (lv_at hl 2 rfl) ?_
                refine lv_iload_n hx hb d_Mo_reckoned_101 rfl (lv_at hl 3 rfl) ?_
                refine lv_iand hx hb d_Mo_reckoned_102 ?_
                rw [f_Mo_reckoned_e9 f a b h1_0 h1_1 h1_2 h1_3 h1_4 h1_5 h1_6]
                exact W.iret hx hb hr (fun t ht hW => ⟨⟨_, (), rfl, rfl, by show va_P D classes _ t.heap; rw [ht]; exact hP⟩, hS.F ht⟩) hS.2.2 d_Mo_reckoned_103 hlocks
abbrev q_Mo_reckon (D : va_G) (cI cL : ClassId) (b0 b1 b2 b3 b4 b5 b6 b7 : Nat) (A : Nat → Prop) (ev : Int32) (wr : Nat → Int32) (wg : Nat → Int64) (ke : Nat → Int32) (ma : Nat → Int32) (li : Nat → Int64) (ps : Int32) (pn : Nat → Int32) (cy : Int32) (ca : Int32) (va : Int32) (cn : Nat → Int32) (pp : Int32) (px : Int32) (go : Int32) (ne : Int32) (gi : Int32) (gn : Int32) (F : Int32 × Int32 × Int32 × Int32) : Array Value → State → Outcome → State → Prop := va_Qv (fun (_ : Unit) => True) (fun _ t => va_P D classes (W_Mo cI cL b0 b1 b2 b3 b4 b5 b6 b7 ev wr wg ke ma li ps pn cy F.1 F.2.1 cn pp px go ne F.2.2.1 F.2.2.2) t.heap) A
theorem f_Mo_reckon_e0 (ca : Int32) (va : Int32) (px : Int32) (gi : Int32) (gn : Int32) (f : Int32) (g : Int32) (a : Int32) (b : Int32) (o : Int32) (t1 : Int32 × Int32) (e_t1 : f_Mo_give gi gn (f_Mo_reckoned f a b) = t1) (h1 : g = 0) : f_Mo_reckon ca va px gi gn f g a b o = (ca, va, t1.1, t1.2) := by
  subst e_t1
  exact (if_pos h1)
theorem f_Mo_reckon_e1 (ca : Int32) (va : Int32) (px : Int32) (gi : Int32) (gn : Int32) (f : Int32) (g : Int32) (a : Int32) (b : Int32) (o : Int32) (t2 : Int32 × Int32) (e_t2 : f_Mo_illegal ca va px = t2) (h1 : ¬ g = 0) (h6 : o = 0) (h49 : ¬ g = (32 : Int32)) : f_Mo_reckon ca va px gi gn f g a b o = (t2.1, t2.2, gi, gn) := by
  subst e_t2
  exact ((if_neg h1).trans ((if_pos h6).trans (if_neg h49)))
theorem f_Mo_reckon_e2 (ca : Int32) (va : Int32) (px : Int32) (gi : Int32) (gn : Int32) (f : Int32) (g : Int32) (a : Int32) (b : Int32) (o : Int32) (t3 : Int32 × Int32) (e_t3 : f_Mo_illegal ca va px = t3) (h1 : ¬ g = 0) (h6 : o = 0) (h49 : g = (32 : Int32)) (h54 : ¬ f = (5 : Int32)) (h78 : ¬ f = 0) : f_Mo_reckon ca va px gi gn f g a b o = (t3.1, t3.2, gi, gn) := by
  subst e_t3
  exact ((if_neg h1).trans ((if_pos h6).trans ((if_pos h49).trans ((if_neg h54).trans (if_neg h78)))))
theorem f_Mo_reckon_e3 (ca : Int32) (va : Int32) (px : Int32) (gi : Int32) (gn : Int32) (f : Int32) (g : Int32) (a : Int32) (b : Int32) (o : Int32) (t4 : Int32 × Int32) (e_t4 : f_Mo_give gi gn (a - b) = t4) (h1 : ¬ g = 0) (h6 : o = 0) (h49 : g = (32 : Int32)) (h54 : ¬ f = (5 : Int32)) (h78 : f = 0) : f_Mo_reckon ca va px gi gn f g a b o = (ca, va, t4.1, t4.2) := by
  subst e_t4
  exact ((if_neg h1).trans ((if_pos h6).trans ((if_pos h49).trans ((if_neg h54).trans (if_pos h78)))))
theorem f_Mo_reckon_e4 (ca : Int32) (va : Int32) (px : Int32) (gi : Int32) (gn : Int32) (f : Int32) (g : Int32) (a : Int32) (b : Int32) (o : Int32) (t5 : Int32 × Int32) (e_t5 : f_Mo_give gi gn (a >>> ((b &&& (31 : Int32)) &&& 31)) = t5) (h1 : ¬ g = 0) (h6 : o = 0) (h49 : g = (32 : Int32)) (h54 : f = (5 : Int32)) : f_Mo_reckon ca va px gi gn f g a b o = (ca, va, t5.1, t5.2) := by
  subst e_t5
  exact ((if_neg h1).trans ((if_pos h6).trans ((if_pos h49).trans (if_pos h54))))
theorem f_Mo_reckon_e5 (ca : Int32) (va : Int32) (px : Int32) (gi : Int32) (gn : Int32) (f : Int32) (g : Int32) (a : Int32) (b : Int32) (o : Int32) (t6 : Int32 × Int32) (e_t6 : f_Mo_illegal ca va px = t6) (h1 : ¬ g = 0) (h6 : ¬ o = 0) (h11 : f = (1 : Int32)) (h49 : ¬ g = (32 : Int32)) : f_Mo_reckon ca va px gi gn f g a b o = (t6.1, t6.2, gi, gn) := by
  subst e_t6
  exact ((if_neg h1).trans ((if_neg h6).trans ((if_pos h11).trans (if_neg h49))))
theorem f_Mo_reckon_e6 (ca : Int32) (va : Int32) (px : Int32) (gi : Int32) (gn : Int32) (f : Int32) (g : Int32) (a : Int32) (b : Int32) (o : Int32) (t7 : Int32 × Int32) (e_t7 : f_Mo_illegal ca va px = t7) (h1 : ¬ g = 0) (h6 : ¬ o = 0) (h11 : f = (1 : Int32)) (h49 : g = (32 : Int32)) (h54 : ¬ f = (5 : Int32)) (h78 : ¬ f = 0) : f_Mo_reckon ca va px gi gn f g a b o = (t7.1, t7.2, gi, gn) := by
  subst e_t7
  exact ((if_neg h1).trans ((if_neg h6).trans ((if_pos h11).trans ((if_pos h49).trans ((if_neg h54).trans (if_neg h78))))))
theorem f_Mo_reckon_e7 (ca : Int32) (va : Int32) (px : Int32) (gi : Int32) (gn : Int32) (f : Int32) (g : Int32) (a : Int32) (b : Int32) (o : Int32) (t8 : Int32 × Int32) (e_t8 : f_Mo_give gi gn (a - b) = t8) (h1 : ¬ g = 0) (h6 : ¬ o = 0) (h11 : f = (1 : Int32)) (h49 : g = (32 : Int32)) (h54 : ¬ f = (5 : Int32)) (h78 : f = 0) : f_Mo_reckon ca va px gi gn f g a b o = (ca, va, t8.1, t8.2) := by
  subst e_t8
  exact ((if_neg h1).trans ((if_neg h6).trans ((if_pos h11).trans ((if_pos h49).trans ((if_neg h54).trans (if_pos h78))))))
theorem f_Mo_reckon_e8 (ca : Int32) (va : Int32) (px : Int32) (gi : Int32) (gn : Int32) (f : Int32) (g : Int32) (a : Int32) (b : Int32) (o : Int32) (t9 : Int32 × Int32) (e_t9 : f_Mo_give gi gn (a >>> ((b &&& (31 : Int32)) &&& 31)) = t9) (h1 : ¬ g = 0) (h6 : ¬ o = 0) (h11 : f = (1 : Int32)) (h49 : g = (32 : Int32)) (h54 : f = (5 : Int32)) : f_Mo_reckon ca va px gi gn f g a b o = (ca, va, t9.1, t9.2) := by
  subst e_t9
  exact ((if_neg h1).trans ((if_neg h6).trans ((if_pos h11).trans ((if_pos h49).trans (if_pos h54)))))
theorem f_Mo_reckon_e9 (ca : Int32) (va : Int32) (px : Int32) (gi : Int32) (gn : Int32) (f : Int32) (g : Int32) (a : Int32) (b : Int32) (o : Int32) (t10 : Int32 × Int32) (e_t10 : f_Mo_illegal ca va px = t10) (h1 : ¬ g = 0) (h6 : ¬ o = 0) (h11 : ¬ f = (1 : Int32)) (h16 : f = (5 : Int32)) (h49 : ¬ g = (32 : Int32)) : f_Mo_reckon ca va px gi gn f g a b o = (t10.1, t10.2, gi, gn) := by
  subst e_t10
  exact ((if_neg h1).trans ((if_neg h6).trans ((if_neg h11).trans ((if_pos h16).trans (if_neg h49)))))
theorem f_Mo_reckon_e10 (ca : Int32) (va : Int32) (px : Int32) (gi : Int32) (gn : Int32) (f : Int32) (g : Int32) (a : Int32) (b : Int32) (o : Int32) (t11 : Int32 × Int32) (e_t11 : f_Mo_give gi gn (a >>> ((b &&& (31 : Int32)) &&& 31)) = t11) (h1 : ¬ g = 0) (h6 : ¬ o = 0) (h11 : ¬ f = (1 : Int32)) (h16 : f = (5 : Int32)) (h49 : g = (32 : Int32)) : f_Mo_reckon ca va px gi gn f g a b o = (ca, va, t11.1, t11.2) := by
  subst e_t11
  exact ((if_neg h1).trans ((if_neg h6).trans ((if_neg h11).trans ((if_pos h16).trans (if_pos h49)))))
theorem f_Mo_reckon_e11 (ca : Int32) (va : Int32) (px : Int32) (gi : Int32) (gn : Int32) (f : Int32) (g : Int32) (a : Int32) (b : Int32) (o : Int32) (t12 : Int32 × Int32) (e_t12 : f_Mo_give gi gn (f_Mo_reckoned f a b) = t12) (h1 : ¬ g = 0) (h6 : ¬ o = 0) (h11 : ¬ f = (1 : Int32)) (h16 : ¬ f = (5 : Int32)) : f_Mo_reckon ca va px gi gn f g a b o = (ca, va, t12.1, t12.2) := by
  subst e_t12
  exact ((if_neg h1).trans ((if_neg h6).trans ((if_neg h11).trans (if_neg h16))))
set_option maxHeartbeats 4000000 in
set_option maxRecDepth 100000 in
theorem c_Mo_reckon (l : Launch) (D : va_G) (cI cL : ClassId) (b0 b1 b2 b3 b4 b5 b6 b7 : Nat) (sz : Nat) (ev : Int32) (wr : Nat → Int32) (wg : Nat → Int64) (ke : Nat → Int32) (ma : Nat → Int32) (li : Nat → Int64) (ps : Int32) (pn : Nat → Int32) (cy : Int32) (ca : Int32) (va : Int32) (cn : Nat → Int32) (pp : Int32) (px : Int32) (go : Int32) (ne : Int32) (gi : Int32) (gn : Int32) (f : Int32) (g : Int32) (a : Int32) (b : Int32) (o : Int32)  : Met l y_Mo_reckon w_Mo_reckon ({ frames := 2, cells := 0, slots := 0, locals := 45 }) (va_Pc [.ref b0, .int f, .int g, .int a, .int b, .int o] (PW D cI cL (W_Mo cI cL b0 b1 b2 b3 b4 b5 b6 b7 ev wr wg ke ma li ps pn cy ca va cn pp px go ne gi gn) sz)) (q_Mo_reckon D cI cL b0 b1 b2 b3 b4 b5 b6 b7 (va_A (W_Mo cI cL b0 b1 b2 b3 b4 b5 b6 b7 ev wr wg ke ma li ps pn cy ca va cn pp px go ne gi gn) sz) ev wr wg ke ma li ps pn cy ca va cn pp px go ne gi gn (f_Mo_reckon ca va px gi gn f g a b o)) 0 0 (va_A (W_Mo cI cL b0 b1 b2 b3 b4 b5 b6 b7 ev wr wg ke ma li ps pn cy ca va cn pp px go ne gi gn) sz) := by
  refine mk_met (Qf := fun A => q_Mo_reckon D cI cL b0 b1 b2 b3 b4 b5 b6 b7 A ev wr wg ke ma li ps pn cy ca va cn pp px go ne gi gn (f_Mo_reckon ca va px gi gn f g a b o)) (by decide) (Nat.le_of_ble_eq_true rfl) ?_
  intro p e s m below meth c A ls hx hb hr hlocks hml hown hg hK hN hT hA hP hD hS hnm hl
  refine lv_iload_n hx hb d_Mo_reckon_0 rfl (lv_at hl 2 rfl) ?_
  refine lv_if_eq (tgt := 19) hx hb d_Mo_reckon_1 (by decide) (fun h1 => ?_) (fun h1 => ?_)
  · refine lv_iconst (v := 1) hx hb d_Mo_reckon_19 (by decide) ?_
    refine lv_goto (tgt := 24) hx hb d_Mo_reckon_20 (by decide) ?_
    refine lv_istore (lv' := [(6, .int _), (0, .ref _), (1, .int _), (2, .int _), (3, .int _), (4, .int _), (5, .int _)]) hx hb d_Mo_reckon_24 hl (by decide) rfl (fun ls hl => ?_)
    refine lv_iload hx hb d_Mo_reckon_26 (lv_at hl 0 rfl) ?_
    refine lv_if_eq (tgt := 46) hx hb d_Mo_reckon_28 (by decide) (fun h => absurd h (by decide)) (fun _ => ?_)
    refine lv_aload_n hx hb d_Mo_reckon_31 rfl (lv_at hl 1 rfl) ?_
    refine lv_aload_n hx hb d_Mo_reckon_32 rfl (lv_at hl 1 rfl) ?_
    refine lv_iload_n hx hb d_Mo_reckon_33 rfl (lv_at hl 2 rfl) ?_
    refine lv_iload_n hx hb d_Mo_reckon_34 rfl (lv_at hl 4 rfl) ?_
    refine lv_iload hx hb d_Mo_reckon_35 (lv_at hl 5 rfl) ?_
    refine cj_i (wc := (W_Mo cI cL b0 b1 b2 b3 b4 b5 b6 b7 ev wr wg ke ma li ps pn cy ca va cn pp px go ne gi gn)) (w1 := (W_Mo cI cL b0 b1 b2 b3 b4 b5 b6 b7 ev wr wg ke ma li ps pn cy ca va cn pp px go ne gi gn)) hP hD hS hA [0, 1, 2, 3, 4, 5, 6, 7] rfl [b0, b1, b2, b3, b4, b5, b6, b7] rfl rfl (va_runV (rest := [.ref _]) ⟨hx, hb, hml, hown, hg⟩ (c_Mo_reckoned l D cI cL b0 b1 b2 b3 b4 b5 b6 b7 _ ev wr wg ke ma li ps pn cy ca va cn pp px go ne gi gn f a b) ⟨callB_of 3 hg (gw_good m_705) rfl rfl rfl (hg _ m_71) (hg _ m_702) hd_Mo_reckoned ⟨Nat.le_of_ble_eq_true rfl, Nat.le_of_ble_eq_true rfl⟩, hg _ m_704, hg _ m_61⟩ (pw_V hK hN hT hA hP hD hS [0, 1, 2, 3, 4, 5, 6, 7] rfl (by decide) (q0 := 0) (ci := 5) rfl rfl) rfl rfl hl.1 rfl (lv_room (Nat.le_of_ble_eq_true rfl)) d_Mo_reckon_37 ⟨Nat.le_of_ble_eq_true rfl, Nat.le_of_ble_eq_true rfl⟩) (fun H locs hP hD hS => ?_)
    have hP : va_P D classes (W_Mo cI cL b0 b1 b2 b3 b4 b5 b6 b7 ev wr wg ke ma li ps pn cy ca va cn pp px go ne gi gn) H := hP
    have hD : va_D A (W_Mo cI cL b0 b1 b2 b3 b4 b5 b6 b7 ev wr wg ke ma li ps pn cy ca va cn pp px go ne gi gn) := hD
    refine cj_v (wc := (W_Mo cI cL b0 b1 b2 b3 b4 b5 b6 b7 ev wr wg ke ma li ps pn cy ca va cn pp px go ne gi gn)) (w1 := (W_Mo cI cL b0 b1 b2 b3 b4 b5 b6 b7 ev wr wg ke ma li ps pn cy ca va cn pp px go ne ((f_Mo_give gi gn (f_Mo_reckoned f a b)).1) ((f_Mo_give gi gn (f_Mo_reckoned f a b)).2))) hP hD hS hA [0, 1, 2, 3, 4, 5, 6, 7] rfl [b0, b1, b2, b3, b4, b5, b6, b7] rfl rfl (va_runV (rest := []) ⟨hx, hb, hml, hown, hg⟩ (c_Mo_give l D cI cL b0 b1 b2 b3 b4 b5 b6 b7 _ ev wr wg ke ma li ps pn cy ca va cn pp px go ne gi gn (f_Mo_reckoned f a b)) ⟨callB_of 1 hg (gw_good m_645) rfl rfl rfl (hg _ m_71) (hg _ m_642) hd_Mo_give ⟨Nat.le_of_ble_eq_true rfl, Nat.le_of_ble_eq_true rfl⟩, hg _ m_644, hg _ m_47⟩ (pw_V hK hN hT hA hP hD hS [0, 1, 2, 3, 4, 5, 6, 7] rfl (by decide) (q0 := 0) (ci := 5) rfl rfl) rfl rfl hl.1 rfl (lv_room (Nat.le_of_ble_eq_true rfl)) d_Mo_reckon_40 ⟨Nat.le_of_ble_eq_true rfl, Nat.le_of_ble_eq_true rfl⟩) (fun H locs hP hD hS => ?_)
    have hP : va_P D classes (W_Mo cI cL b0 b1 b2 b3 b4 b5 b6 b7 ev wr wg ke ma li ps pn cy ca va cn pp px go ne ((f_Mo_give gi gn (f_Mo_reckoned f a b)).1) ((f_Mo_give gi gn (f_Mo_reckoned f a b)).2)) H := hP
    have hD : va_D A (W_Mo cI cL b0 b1 b2 b3 b4 b5 b6 b7 ev wr wg ke ma li ps pn cy ca va cn pp px go ne ((f_Mo_give gi gn (f_Mo_reckoned f a b)).1) ((f_Mo_give gi gn (f_Mo_reckoned f a b)).2)) := hD
    generalize e_t1 : f_Mo_give gi gn (f_Mo_reckoned f a b) = t1 at hP hD ⊢
    obtain ⟨t1_0, t1_1⟩ := t1
    have hP : va_P D classes (W_Mo cI cL b0 b1 b2 b3 b4 b5 b6 b7 ev wr wg ke ma li ps pn cy ca va cn pp px go ne t1_0 t1_1) H := hP
    have hD : va_D A (W_Mo cI cL b0 b1 b2 b3 b4 b5 b6 b7 ev wr wg ke ma li ps pn cy ca va cn pp px go ne t1_0 t1_1) := hD
    refine lv_goto (tgt := 96) hx hb d_Mo_reckon_43 (by decide) ?_
    rw [f_Mo_reckon_e0 ca va px gi gn f g a b o (t1_0, t1_1) e_t1 h1]
    exact W.vret hx hb hr (fun t ht hW => ⟨⟨(), rfl, trivial, by show va_P D classes _ t.heap; rw [ht]; exact hP⟩, hS.F ht⟩) hS.2.2 d_Mo_reckon_96 hlocks
  · refine lv_iload hx hb d_Mo_reckon_4 (lv_at hl 5 rfl) ?_
    refine lv_if_eq (tgt := 23) hx hb d_Mo_reckon_6 (by decide) (fun h6 => ?_) (fun h6 => ?_)
    · refine lv_iconst (v := 0) hx hb d_Mo_reckon_23 (by decide) ?_
      refine lv_istore (lv' := [(6, .int _), (0, .ref _), (1, .int _), (2, .int _), (3, .int _), (4, .int _), (5, .int _)]) hx hb d_Mo_reckon_24 hl (by decide) rfl (fun ls hl => ?_)
      refine lv_iload hx hb d_Mo_reckon_26 (lv_at hl 0 rfl) ?_
      refine lv_if_eq (tgt := 46) hx hb d_Mo_reckon_28 (by decide) (fun _ => ?_) (fun h => absurd (by decide) h)
      refine lv_iload_n hx hb d_Mo_reckon_46 rfl (lv_at hl 3 rfl) ?_
      refine lv_bipush (v := 32) hx hb d_Mo_reckon_47 (by decide) ?_
      refine lv_icmp_ne (tgt := 71) hx hb d_Mo_reckon_49 (by decide) (fun h49 => ?_) (fun h49 => ?_)
      · refine lv_iload_n hx hb d_Mo_reckon_71 rfl (lv_at hl 3 rfl) ?_
        refine lv_bipush (v := 32) hx hb d_Mo_reckon_72 (by decide) ?_
        refine lv_icmp_ne (tgt := 92) hx hb d_Mo_reckon_74 (by decide) (fun _ => ?_) (fun h => absurd h h49)
        refine lv_aload_n hx hb d_Mo_reckon_92 rfl (lv_at hl 1 rfl) ?_
        refine cj_v (wc := (W_Mo cI cL b0 b1 b2 b3 b4 b5 b6 b7 ev wr wg ke ma li ps pn cy ca va cn pp px go ne gi gn)) (w1 := (W_Mo cI cL b0 b1 b2 b3 b4 b5 b6 b7 ev wr wg ke ma li ps pn cy ((f_Mo_illegal ca va px).1) ((f_Mo_illegal ca va px).2) cn pp px go ne gi gn)) hP hD hS hA [0, 1, 2, 3, 4, 5, 6, 7] rfl [b0, b1, b2, b3, b4, b5, b6, b7] rfl rfl (va_runV (rest := []) ⟨hx, hb, hml, hown, hg⟩ (c_Mo_illegal l D cI cL b0 b1 b2 b3 b4 b5 b6 b7 _ ev wr wg ke ma li ps pn cy ca va cn pp px go ne gi gn) ⟨callB_of 0 hg (gw_good m_661) rfl rfl rfl (hg _ m_71) (hg _ m_658) hd_Mo_illegal ⟨Nat.le_of_ble_eq_true rfl, Nat.le_of_ble_eq_true rfl⟩, hg _ m_660, hg _ m_51⟩ (pw_V hK hN hT hA hP hD hS [0, 1, 2, 3, 4, 5, 6, 7] rfl (by decide) (q0 := 0) (ci := 5) rfl rfl) rfl rfl hl.1 rfl (lv_room (Nat.le_of_ble_eq_true rfl)) d_Mo_reckon_93 ⟨Nat.le_of_ble_eq_true rfl, Nat.le_of_ble_eq_true rfl⟩) (fun H locs hP hD hS => ?_)
        have hP : va_P D classes (W_Mo cI cL b0 b1 b2 b3 b4 b5 b6 b7 ev wr wg ke ma li ps pn cy ((f_Mo_illegal ca va px).1) ((f_Mo_illegal ca va px).2) cn pp px go ne gi gn) H := hP
        have hD : va_D A (W_Mo cI cL b0 b1 b2 b3 b4 b5 b6 b7 ev wr wg ke ma li ps pn cy ((f_Mo_illegal ca va px).1) ((f_Mo_illegal ca va px).2) cn pp px go ne gi gn) := hD
        generalize e_t2 : f_Mo_illegal ca va px = t2 at hP hD ⊢
        obtain ⟨t2_0, t2_1⟩ := t2
        have hP : va_P D classes (W_Mo cI cL b0 b1 b2 b3 b4 b5 b6 b7 ev wr wg ke ma li ps pn cy t2_0 t2_1 cn pp px go ne gi gn) H := hP
        have hD : va_D A (W_Mo cI cL b0 b1 b2 b3 b4 b5 b6 b7 ev wr wg ke ma li ps pn cy t2_0 t2_1 cn pp px go ne gi gn) := hD
        rw [f_Mo_reckon_e1 ca va px gi gn f g a b o (t2_0, t2_1) e_t2 h1 h6 h49]
        exact W.vret hx hb hr (fun t ht hW => ⟨⟨(), rfl, trivial, by show va_P D classes _ t.heap; rw [ht]; exact hP⟩, hS.F ht⟩) hS.2.2 d_Mo_reckon_96 hlocks
      · refine lv_iload_n hx hb d_Mo_reckon_52 rfl (lv_at hl 2 rfl) ?_
        refine lv_iconst (v := 5) hx hb d_Mo_reckon_53 (by decide) ?_
        refine lv_icmp_ne (tgt := 71) hx hb d_Mo_reckon_54 (by decide) (fun h54 => ?_) (fun h54 => ?_)
        · refine lv_iload_n hx hb d_Mo_reckon_71 rfl (lv_at hl 3 rfl) ?_
          refine lv_bipush (v := 32) hx hb d_Mo_reckon_72 (by decide) ?_
          refine lv_icmp_ne (tgt := 92) hx hb d_Mo_reckon_74 (by decide) (fun h => absurd h49 h) (fun _ => ?_)
          refine lv_iload_n hx hb d_Mo_reckon_77 rfl (lv_at hl 2 rfl) ?_
          refine lv_if_ne (tgt := 92) hx hb d_Mo_reckon_78 (by decide) (fun h78 => ?_) (fun h78 => ?_)
          · refine lv_aload_n hx hb d_Mo_reckon_92 rfl (lv_at hl 1 rfl) ?_
            refine cj_v (wc := (W_Mo cI cL b0 b1 b2 b3 b4 b5 b6 b7 ev wr wg ke ma li ps pn cy ca va cn pp px go ne gi gn)) (w1 := (W_Mo cI cL b0 b1 b2 b3 b4 b5 b6 b7 ev wr wg ke ma li ps pn cy ((f_Mo_illegal ca va px).1) ((f_Mo_illegal ca va px).2) cn pp px go ne gi gn)) hP hD hS hA [0, 1, 2, 3, 4, 5, 6, 7] rfl [b0, b1, b2, b3, b4, b5, b6, b7] rfl rfl (va_runV (rest := []) ⟨hx, hb, hml, hown, hg⟩ (c_Mo_illegal l D cI cL b0 b1 b2 b3 b4 b5 b6 b7 _ ev wr wg ke ma li ps pn cy ca va cn pp px go ne gi gn) ⟨callB_of 0 hg (gw_good m_661) rfl rfl rfl (hg _ m_71) (hg _ m_658) hd_Mo_illegal ⟨Nat.le_of_ble_eq_true rfl, Nat.le_of_ble_eq_true rfl⟩, hg _ m_660, hg _ m_51⟩ (pw_V hK hN hT hA hP hD hS [0, 1, 2, 3, 4, 5, 6, 7] rfl (by decide) (q0 := 0) (ci := 5) rfl rfl) rfl rfl hl.1 rfl (lv_room (Nat.le_of_ble_eq_true rfl)) d_Mo_reckon_93 ⟨Nat.le_of_ble_eq_true rfl, Nat.le_of_ble_eq_true rfl⟩) (fun H locs hP hD hS => ?_)
            have hP : va_P D classes (W_Mo cI cL b0 b1 b2 b3 b4 b5 b6 b7 ev wr wg ke ma li ps pn cy ((f_Mo_illegal ca va px).1) ((f_Mo_illegal ca va px).2) cn pp px go ne gi gn) H := hP
            have hD : va_D A (W_Mo cI cL b0 b1 b2 b3 b4 b5 b6 b7 ev wr wg ke ma li ps pn cy ((f_Mo_illegal ca va px).1) ((f_Mo_illegal ca va px).2) cn pp px go ne gi gn) := hD
            generalize e_t3 : f_Mo_illegal ca va px = t3 at hP hD ⊢
            obtain ⟨t3_0, t3_1⟩ := t3
            have hP : va_P D classes (W_Mo cI cL b0 b1 b2 b3 b4 b5 b6 b7 ev wr wg ke ma li ps pn cy t3_0 t3_1 cn pp px go ne gi gn) H := hP
            have hD : va_D A (W_Mo cI cL b0 b1 b2 b3 b4 b5 b6 b7 ev wr wg ke ma li ps pn cy t3_0 t3_1 cn pp px go ne gi gn) := hD
            rw [f_Mo_reckon_e2 ca va px gi gn f g a b o (t3_0, t3_1) e_t3 h1 h6 h49 h54 h78]
            exact W.vret hx hb hr (fun t ht hW => ⟨⟨(), rfl, trivial, by show va_P D classes _ t.heap; rw [ht]; exact hP⟩, hS.F ht⟩) hS.2.2 d_Mo_reckon_96 hlocks
          · refine lv_aload_n hx hb d_Mo_reckon_81 rfl (lv_at hl 1 rfl) ?_
            refine lv_iload_n hx hb d_Mo_reckon_82 rfl (lv_at hl 4 rfl) ?_
            refine lv_iload hx hb d_Mo_reckon_83 (lv_at hl 5 rfl) ?_
            refine lv_isub hx hb d_Mo_reckon_85 ?_
            refine cj_v (wc := (W_Mo cI cL b0 b1 b2 b3 b4 b5 b6 b7 ev wr wg ke ma li ps pn cy ca va cn pp px go ne gi gn)) (w1 := (W_Mo cI cL b0 b1 b2 b3 b4 b5 b6 b7 ev wr wg ke ma li ps pn cy ca va cn pp px go ne ((f_Mo_give gi gn (a - b)).1) ((f_Mo_give gi gn (a - b)).2))) hP hD hS hA [0, 1, 2, 3, 4, 5, 6, 7] rfl [b0, b1, b2, b3, b4, b5, b6, b7] rfl rfl (va_runV (rest := []) ⟨hx, hb, hml, hown, hg⟩ (c_Mo_give l D cI cL b0 b1 b2 b3 b4 b5 b6 b7 _ ev wr wg ke ma li ps pn cy ca va cn pp px go ne gi gn (a - b)) ⟨callB_of 1 hg (gw_good m_645) rfl rfl rfl (hg _ m_71) (hg _ m_642) hd_Mo_give ⟨Nat.le_of_ble_eq_true rfl, Nat.le_of_ble_eq_true rfl⟩, hg _ m_644, hg _ m_47⟩ (pw_V hK hN hT hA hP hD hS [0, 1, 2, 3, 4, 5, 6, 7] rfl (by decide) (q0 := 0) (ci := 5) rfl rfl) rfl rfl hl.1 rfl (lv_room (Nat.le_of_ble_eq_true rfl)) d_Mo_reckon_86 ⟨Nat.le_of_ble_eq_true rfl, Nat.le_of_ble_eq_true rfl⟩) (fun H locs hP hD hS => ?_)
            have hP : va_P D classes (W_Mo cI cL b0 b1 b2 b3 b4 b5 b6 b7 ev wr wg ke ma li ps pn cy ca va cn pp px go ne ((f_Mo_give gi gn (a - b)).1) ((f_Mo_give gi gn (a - b)).2)) H := hP
            have hD : va_D A (W_Mo cI cL b0 b1 b2 b3 b4 b5 b6 b7 ev wr wg ke ma li ps pn cy ca va cn pp px go ne ((f_Mo_give gi gn (a - b)).1) ((f_Mo_give gi gn (a - b)).2)) := hD
            generalize e_t4 : f_Mo_give gi gn (a - b) = t4 at hP hD ⊢
            obtain ⟨t4_0, t4_1⟩ := t4
            have hP : va_P D classes (W_Mo cI cL b0 b1 b2 b3 b4 b5 b6 b7 ev wr wg ke ma li ps pn cy ca va cn pp px go ne t4_0 t4_1) H := hP
            have hD : va_D A (W_Mo cI cL b0 b1 b2 b3 b4 b5 b6 b7 ev wr wg ke ma li ps pn cy ca va cn pp px go ne t4_0 t4_1) := hD
            refine lv_goto (tgt := 96) hx hb d_Mo_reckon_89 (by decide) ?_
            rw [f_Mo_reckon_e3 ca va px gi gn f g a b o (t4_0, t4_1) e_t4 h1 h6 h49 h54 h78]
            exact W.vret hx hb hr (fun t ht hW => ⟨⟨(), rfl, trivial, by show va_P D classes _ t.heap; rw [ht]; exact hP⟩, hS.F ht⟩) hS.2.2 d_Mo_reckon_96 hlocks
        · refine lv_aload_n hx hb d_Mo_reckon_57 rfl (lv_at hl 1 rfl) ?_
          refine lv_iload_n hx hb d_Mo_reckon_58 rfl (lv_at hl 4 rfl) ?_
          refine lv_iload hx hb d_Mo_reckon_59 (lv_at hl 5 rfl) ?_
          refine lv_bipush (v := 31) hx hb d_Mo_reckon_61 (by decide) ?_
          refine lv_iand hx hb d_Mo_reckon_63 ?_
          refine lv_ishr hx hb d_Mo_reckon_64 ?_
          refine cj_v (wc := (W_Mo cI cL b0 b1 b2 b3 b4 b5 b6 b7 ev wr wg ke ma li ps pn cy ca va cn pp px go ne gi gn)) (w1 := (W_Mo cI cL b0 b1 b2 b3 b4 b5 b6 b7 ev wr wg ke ma li ps pn cy ca va cn pp px go ne ((f_Mo_give gi gn (a >>> ((b &&& (31 : Int32)) &&& 31))).1) ((f_Mo_give gi gn (a >>> ((b &&& (31 : Int32)) &&& 31))).2))) hP hD hS hA [0, 1, 2, 3, 4, 5, 6, 7] rfl [b0, b1, b2, b3, b4, b5, b6, b7] rfl rfl (va_runV (rest := []) ⟨hx, hb, hml, hown, hg⟩ (c_Mo_give l D cI cL b0 b1 b2 b3 b4 b5 b6 b7 _ ev wr wg ke ma li ps pn cy ca va cn pp px go ne gi gn (a >>> ((b &&& (31 : Int32)) &&& 31))) ⟨callB_of 1 hg (gw_good m_645) rfl rfl rfl (hg _ m_71) (hg _ m_642) hd_Mo_give ⟨Nat.le_of_ble_eq_true rfl, Nat.le_of_ble_eq_true rfl⟩, hg _ m_644, hg _ m_47⟩ (pw_V hK hN hT hA hP hD hS [0, 1, 2, 3, 4, 5, 6, 7] rfl (by decide) (q0 := 0) (ci := 5) rfl rfl) rfl rfl hl.1 rfl (lv_room (Nat.le_of_ble_eq_true rfl)) d_Mo_reckon_65 ⟨Nat.le_of_ble_eq_true rfl, Nat.le_of_ble_eq_true rfl⟩) (fun H locs hP hD hS => ?_)
          have hP : va_P D classes (W_Mo cI cL b0 b1 b2 b3 b4 b5 b6 b7 ev wr wg ke ma li ps pn cy ca va cn pp px go ne ((f_Mo_give gi gn (a >>> ((b &&& (31 : Int32)) &&& 31))).1) ((f_Mo_give gi gn (a >>> ((b &&& (31 : Int32)) &&& 31))).2)) H := hP
          have hD : va_D A (W_Mo cI cL b0 b1 b2 b3 b4 b5 b6 b7 ev wr wg ke ma li ps pn cy ca va cn pp px go ne ((f_Mo_give gi gn (a >>> ((b &&& (31 : Int32)) &&& 31))).1) ((f_Mo_give gi gn (a >>> ((b &&& (31 : Int32)) &&& 31))).2)) := hD
          generalize e_t5 : f_Mo_give gi gn (a >>> ((b &&& (31 : Int32)) &&& 31)) = t5 at hP hD ⊢
          obtain ⟨t5_0, t5_1⟩ := t5
          have hP : va_P D classes (W_Mo cI cL b0 b1 b2 b3 b4 b5 b6 b7 ev wr wg ke ma li ps pn cy ca va cn pp px go ne t5_0 t5_1) H := hP
          have hD : va_D A (W_Mo cI cL b0 b1 b2 b3 b4 b5 b6 b7 ev wr wg ke ma li ps pn cy ca va cn pp px go ne t5_0 t5_1) := hD
          refine lv_goto (tgt := 96) hx hb d_Mo_reckon_68 (by decide) ?_
          rw [f_Mo_reckon_e4 ca va px gi gn f g a b o (t5_0, t5_1) e_t5 h1 h6 h49 h54]
          exact W.vret hx hb hr (fun t ht hW => ⟨⟨(), rfl, trivial, by show va_P D classes _ t.heap; rw [ht]; exact hP⟩, hS.F ht⟩) hS.2.2 d_Mo_reckon_96 hlocks
    · refine lv_iload_n hx hb d_Mo_reckon_9 rfl (lv_at hl 1 rfl) ?_
      refine lv_iconst (v := 1) hx hb d_Mo_reckon_10 (by decide) ?_
      refine lv_icmp_eq (tgt := 23) hx hb d_Mo_reckon_11 (by decide) (fun h11 => ?_) (fun h11 => ?_)
      · refine lv_iconst (v := 0) hx hb d_Mo_reckon_23 (by decide) ?_
        refine lv_istore (lv' := [(6, .int _), (0, .ref _), (1, .int _), (2, .int _), (3, .int _), (4, .int _), (5, .int _)]) hx hb d_Mo_reckon_24 hl (by decide) rfl (fun ls hl => ?_)
        refine lv_iload hx hb d_Mo_reckon_26 (lv_at hl 0 rfl) ?_
        refine lv_if_eq (tgt := 46) hx hb d_Mo_reckon_28 (by decide) (fun _ => ?_) (fun h => absurd (by decide) h)
        refine lv_iload_n hx hb d_Mo_reckon_46 rfl (lv_at hl 3 rfl) ?_
        refine lv_bipush (v := 32) hx hb d_Mo_reckon_47 (by decide) ?_
        refine lv_icmp_ne (tgt := 71) hx hb d_Mo_reckon_49 (by decide) (fun h49 => ?_) (fun h49 => ?_)
        · refine lv_iload_n hx hb d_Mo_reckon_71 rfl (lv_at hl 3 rfl) ?_
          refine lv_bipush (v := 32) hx hb d_Mo_reckon_72 (by decide) ?_
          refine lv_icmp_ne (tgt := 92) hx hb d_Mo_reckon_74 (by decide) (fun _ => ?_) (fun h => absurd h h49)
          refine lv_aload_n hx hb d_Mo_reckon_92 rfl (lv_at hl 1 rfl) ?_
          refine cj_v (wc := (W_Mo cI cL b0 b1 b2 b3 b4 b5 b6 b7 ev wr wg ke ma li ps pn cy ca va cn pp px go ne gi gn)) (w1 := (W_Mo cI cL b0 b1 b2 b3 b4 b5 b6 b7 ev wr wg ke ma li ps pn cy ((f_Mo_illegal ca va px).1) ((f_Mo_illegal ca va px).2) cn pp px go ne gi gn)) hP hD hS hA [0, 1, 2, 3, 4, 5, 6, 7] rfl [b0, b1, b2, b3, b4, b5, b6, b7] rfl rfl (va_runV (rest := []) ⟨hx, hb, hml, hown, hg⟩ (c_Mo_illegal l D cI cL b0 b1 b2 b3 b4 b5 b6 b7 _ ev wr wg ke ma li ps pn cy ca va cn pp px go ne gi gn) ⟨callB_of 0 hg (gw_good m_661) rfl rfl rfl (hg _ m_71) (hg _ m_658) hd_Mo_illegal ⟨Nat.le_of_ble_eq_true rfl, Nat.le_of_ble_eq_true rfl⟩, hg _ m_660, hg _ m_51⟩ (pw_V hK hN hT hA hP hD hS [0, 1, 2, 3, 4, 5, 6, 7] rfl (by decide) (q0 := 0) (ci := 5) rfl rfl) rfl rfl hl.1 rfl (lv_room (Nat.le_of_ble_eq_true rfl)) d_Mo_reckon_93 ⟨Nat.le_of_ble_eq_true rfl, Nat.le_of_ble_eq_true rfl⟩) (fun H locs hP hD hS => ?_)
          have hP : va_P D classes (W_Mo cI cL b0 b1 b2 b3 b4 b5 b6 b7 ev wr wg ke ma li ps pn cy ((f_Mo_illegal ca va px).1) ((f_Mo_illegal ca va px).2) cn pp px go ne gi gn) H := hP
          have hD : va_D A (W_Mo cI cL b0 b1 b2 b3 b4 b5 b6 b7 ev wr wg ke ma li ps pn cy ((f_Mo_illegal ca va px).1) ((f_Mo_illegal ca va px).2) cn pp px go ne gi gn) := hD
          generalize e_t6 : f_Mo_illegal ca va px = t6 at hP hD ⊢
          obtain ⟨t6_0, t6_1⟩ := t6
          have hP : va_P D classes (W_Mo cI cL b0 b1 b2 b3 b4 b5 b6 b7 ev wr wg ke ma li ps pn cy t6_0 t6_1 cn pp px go ne gi gn) H := hP
          have hD : va_D A (W_Mo cI cL b0 b1 b2 b3 b4 b5 b6 b7 ev wr wg ke ma li ps pn cy t6_0 t6_1 cn pp px go ne gi gn) := hD
          rw [f_Mo_reckon_e5 ca va px gi gn f g a b o (t6_0, t6_1) e_t6 h1 h6 h11 h49]
          exact W.vret hx hb hr (fun t ht hW => ⟨⟨(), rfl, trivial, by show va_P D classes _ t.heap; rw [ht]; exact hP⟩, hS.F ht⟩) hS.2.2 d_Mo_reckon_96 hlocks
        · refine lv_iload_n hx hb d_Mo_reckon_52 rfl (lv_at hl 2 rfl) ?_
          refine lv_iconst (v := 5) hx hb d_Mo_reckon_53 (by decide) ?_
          refine lv_icmp_ne (tgt := 71) hx hb d_Mo_reckon_54 (by decide) (fun h54 => ?_) (fun h54 => ?_)
          · refine lv_iload_n hx hb d_Mo_reckon_71 rfl (lv_at hl 3 rfl) ?_
            refine lv_bipush (v := 32) hx hb d_Mo_reckon_72 (by decide) ?_
            refine lv_icmp_ne (tgt := 92) hx hb d_Mo_reckon_74 (by decide) (fun h => absurd h49 h) (fun _ => ?_)
            refine lv_iload_n hx hb d_Mo_reckon_77 rfl (lv_at hl 2 rfl) ?_
            refine lv_if_ne (tgt := 92) hx hb d_Mo_reckon_78 (by decide) (fun h78 => ?_) (fun h78 => ?_)
            · refine lv_aload_n hx hb d_Mo_reckon_92 rfl (lv_at hl 1 rfl) ?_
              refine cj_v (wc := (W_Mo cI cL b0 b1 b2 b3 b4 b5 b6 b7 ev wr wg ke ma li ps pn cy ca va cn pp px go ne gi gn)) (w1 := (W_Mo cI cL b0 b1 b2 b3 b4 b5 b6 b7 ev wr wg ke ma li ps pn cy ((f_Mo_illegal ca va px).1) ((f_Mo_illegal ca va px).2) cn pp px go ne gi gn)) hP hD hS hA [0, 1, 2, 3, 4, 5, 6, 7] rfl [b0, b1, b2, b3, b4, b5, b6, b7] rfl rfl (va_runV (rest := []) ⟨hx, hb, hml, hown, hg⟩ (c_Mo_illegal l D cI cL b0 b1 b2 b3 b4 b5 b6 b7 _ ev wr wg ke ma li ps pn cy ca va cn pp px go ne gi gn) ⟨callB_of 0 hg (gw_good m_661) rfl rfl rfl (hg _ m_71) (hg _ m_658) hd_Mo_illegal ⟨Nat.le_of_ble_eq_true rfl, Nat.le_of_ble_eq_true rfl⟩, hg _ m_660, hg _ m_51⟩ (pw_V hK hN hT hA hP hD hS [0, 1, 2, 3, 4, 5, 6, 7] rfl (by decide) (q0 := 0) (ci := 5) rfl rfl) rfl rfl hl.1 rfl (lv_room (Nat.le_of_ble_eq_true rfl)) d_Mo_reckon_93 ⟨Nat.le_of_ble_eq_true rfl, Nat.le_of_ble_eq_true rfl⟩) (fun H locs hP hD hS => ?_)
              have hP : va_P D classes (W_Mo cI cL b0 b1 b2 b3 b4 b5 b6 b7 ev wr wg ke ma li ps pn cy ((f_Mo_illegal ca va px).1) ((f_Mo_illegal ca va px).2) cn pp px go ne gi gn) H := hP
              have hD : va_D A (W_Mo cI cL b0 b1 b2 b3 b4 b5 b6 b7 ev wr wg ke ma li ps pn cy ((f_Mo_illegal ca va px).1) ((f_Mo_illegal ca va px).2) cn pp px go ne gi gn) := hD
              generalize e_t7 : f_Mo_illegal ca va px = t7 at hP hD ⊢
              obtain ⟨t7_0, t7_1⟩ := t7
              have hP : va_P D classes (W_Mo cI cL b0 b1 b2 b3 b4 b5 b6 b7 ev wr wg ke ma li ps pn cy t7_0 t7_1 cn pp px go ne gi gn) H := hP
              have hD : va_D A (W_Mo cI cL b0 b1 b2 b3 b4 b5 b6 b7 ev wr wg ke ma li ps pn cy t7_0 t7_1 cn pp px go ne gi gn) := hD
              rw [f_Mo_reckon_e6 ca va px gi gn f g a b o (t7_0, t7_1) e_t7 h1 h6 h11 h49 h54 h78]
              exact W.vret hx hb hr (fun t ht hW => ⟨⟨(), rfl, trivial, by show va_P D classes _ t.heap; rw [ht]; exact hP⟩, hS.F ht⟩) hS.2.2 d_Mo_reckon_96 hlocks
            · refine lv_aload_n hx hb d_Mo_reckon_81 rfl (lv_at hl 1 rfl) ?_
              refine lv_iload_n hx hb d_Mo_reckon_82 rfl (lv_at hl 4 rfl) ?_
              refine lv_iload hx hb d_Mo_reckon_83 (lv_at hl 5 rfl) ?_
              refine lv_isub hx hb d_Mo_reckon_85 ?_
              refine cj_v (wc := (W_Mo cI cL b0 b1 b2 b3 b4 b5 b6 b7 ev wr wg ke ma li ps pn cy ca va cn pp px go ne gi gn)) (w1 := (W_Mo cI cL b0 b1 b2 b3 b4 b5 b6 b7 ev wr wg ke ma li ps pn cy ca va cn pp px go ne ((f_Mo_give gi gn (a - b)).1) ((f_Mo_give gi gn (a - b)).2))) hP hD hS hA [0, 1, 2, 3, 4, 5, 6, 7] rfl [b0, b1, b2, b3, b4, b5, b6, b7] rfl rfl (va_runV (rest := []) ⟨hx, hb, hml, hown, hg⟩ (c_Mo_give l D cI cL b0 b1 b2 b3 b4 b5 b6 b7 _ ev wr wg ke ma li ps pn cy ca va cn pp px go ne gi gn (a - b)) ⟨callB_of 1 hg (gw_good m_645) rfl rfl rfl (hg _ m_71) (hg _ m_642) hd_Mo_give ⟨Nat.le_of_ble_eq_true rfl, Nat.le_of_ble_eq_true rfl⟩, hg _ m_644, hg _ m_47⟩ (pw_V hK hN hT hA hP hD hS [0, 1, 2, 3, 4, 5, 6, 7] rfl (by decide) (q0 := 0) (ci := 5) rfl rfl) rfl rfl hl.1 rfl (lv_room (Nat.le_of_ble_eq_true rfl)) d_Mo_reckon_86 ⟨Nat.le_of_ble_eq_true rfl, Nat.le_of_ble_eq_true rfl⟩) (fun H locs hP hD hS => ?_)
              have hP : va_P D classes (W_Mo cI cL b0 b1 b2 b3 b4 b5 b6 b7 ev wr wg ke ma li ps pn cy ca va cn pp px go ne ((f_Mo_give gi gn (a - b)).1) ((f_Mo_give gi gn (a - b)).2)) H := hP
              have hD : va_D A (W_Mo cI cL b0 b1 b2 b3 b4 b5 b6 b7 ev wr wg ke ma li ps pn cy ca va cn pp px go ne ((f_Mo_give gi gn (a - b)).1) ((f_Mo_give gi gn (a - b)).2)) := hD
              generalize e_t8 : f_Mo_give gi gn (a - b) = t8 at hP hD ⊢
              obtain ⟨t8_0, t8_1⟩ := t8
              have hP : va_P D classes (W_Mo cI cL b0 b1 b2 b3 b4 b5 b6 b7 ev wr wg ke ma li ps pn cy ca va cn pp px go ne t8_0 t8_1) H := hP
              have hD : va_D A (W_Mo cI cL b0 b1 b2 b3 b4 b5 b6 b7 ev wr wg ke ma li ps pn cy ca va cn pp px go ne t8_0 t8_1) := hD
              refine lv_goto (tgt := 96) hx hb d_Mo_reckon_89 (by decide) ?_
              rw [f_Mo_reckon_e7 ca va px gi gn f g a b o (t8_0, t8_1) e_t8 h1 h6 h11 h49 h54 h78]
              exact W.vret hx hb hr (fun t ht hW => ⟨⟨(), rfl, trivial, by show va_P D classes _ t.heap; rw [ht]; exact hP⟩, hS.F ht⟩) hS.2.2 d_Mo_reckon_96 hlocks
          · refine lv_aload_n hx hb d_Mo_reckon_57 rfl (lv_at hl 1 rfl) ?_
            refine lv_iload_n hx hb d_Mo_reckon_58 rfl (lv_at hl 4 rfl) ?_
            refine lv_iload hx hb d_Mo_reckon_59 (lv_at hl 5 rfl) ?_
            refine lv_bipush (v := 31) hx hb d_Mo_reckon_61 (by decide) ?_
            refine lv_iand hx hb d_Mo_reckon_63 ?_
            refine lv_ishr hx hb d_Mo_reckon_64 ?_
            refine cj_v (wc := (W_Mo cI cL b0 b1 b2 b3 b4 b5 b6 b7 ev wr wg ke ma li ps pn cy ca va cn pp px go ne gi gn)) (w1 := (W_Mo cI cL b0 b1 b2 b3 b4 b5 b6 b7 ev wr wg ke ma li ps pn cy ca va cn pp px go ne ((f_Mo_give gi gn (a >>> ((b &&& (31 : Int32)) &&& 31))).1) ((f_Mo_give gi gn (a >>> ((b &&& (31 : Int32)) &&& 31))).2))) hP hD hS hA [0, 1, 2, 3, 4, 5, 6, 7] rfl [b0, b1, b2, b3, b4, b5, b6, b7] rfl rfl (va_runV (rest := []) ⟨hx, hb, hml, hown, hg⟩ (c_Mo_give l D cI cL b0 b1 b2 b3 b4 b5 b6 b7 _ ev wr wg ke ma li ps pn cy ca va cn pp px go ne gi gn (a >>> ((b &&& (31 : Int32)) &&& 31))) ⟨callB_of 1 hg (gw_good m_645) rfl rfl rfl (hg _ m_71) (hg _ m_642) hd_Mo_give ⟨Nat.le_of_ble_eq_true rfl, Nat.le_of_ble_eq_true rfl⟩, hg _ m_644, hg _ m_47⟩ (pw_V hK hN hT hA hP hD hS [0, 1, 2, 3, 4, 5, 6, 7] rfl (by decide) (q0 := 0) (ci := 5) rfl rfl) rfl rfl hl.1 rfl (lv_room (Nat.le_of_ble_eq_true rfl)) d_Mo_reckon_65 ⟨Nat.le_of_ble_eq_true rfl, Nat.le_of_ble_eq_true rfl⟩) (fun H locs hP hD hS => ?_)
            have hP : va_P D classes (W_Mo cI cL b0 b1 b2 b3 b4 b5 b6 b7 ev wr wg ke ma li ps pn cy ca va cn pp px go ne ((f_Mo_give gi gn (a >>> ((b &&& (31 : Int32)) &&& 31))).1) ((f_Mo_give gi gn (a >>> ((b &&& (31 : Int32)) &&& 31))).2)) H := hP
            have hD : va_D A (W_Mo cI cL b0 b1 b2 b3 b4 b5 b6 b7 ev wr wg ke ma li ps pn cy ca va cn pp px go ne ((f_Mo_give gi gn (a >>> ((b &&& (31 : Int32)) &&& 31))).1) ((f_Mo_give gi gn (a >>> ((b &&& (31 : Int32)) &&& 31))).2)) := hD
            generalize e_t9 : f_Mo_give gi gn (a >>> ((b &&& (31 : Int32)) &&& 31)) = t9 at hP hD ⊢
            obtain ⟨t9_0, t9_1⟩ := t9
            have hP : va_P D classes (W_Mo cI cL b0 b1 b2 b3 b4 b5 b6 b7 ev wr wg ke ma li ps pn cy ca va cn pp px go ne t9_0 t9_1) H := hP
            have hD : va_D A (W_Mo cI cL b0 b1 b2 b3 b4 b5 b6 b7 ev wr wg ke ma li ps pn cy ca va cn pp px go ne t9_0 t9_1) := hD
            refine lv_goto (tgt := 96) hx hb d_Mo_reckon_68 (by decide) ?_
            rw [f_Mo_reckon_e8 ca va px gi gn f g a b o (t9_0, t9_1) e_t9 h1 h6 h11 h49 h54]
            exact W.vret hx hb hr (fun t ht hW => ⟨⟨(), rfl, trivial, by show va_P D classes _ t.heap; rw [ht]; exact hP⟩, hS.F ht⟩) hS.2.2 d_Mo_reckon_96 hlocks
      · refine lv_iload_n hx hb d_Mo_reckon_14 rfl (lv_at hl 1 rfl) ?_
        refine lv_iconst (v := 5) hx hb d_Mo_reckon_15 (by decide) ?_
        refine lv_icmp_eq (tgt := 23) hx hb d_Mo_reckon_16 (by decide) (fun h16 => ?_) (fun h16 => ?_)
        · refine lv_iconst (v := 0) hx hb d_Mo_reckon_23 (by decide) ?_
          refine lv_istore (lv' := [(6, .int _), (0, .ref _), (1, .int _), (2, .int _), (3, .int _), (4, .int _), (5, .int _)]) hx hb d_Mo_reckon_24 hl (by decide) rfl (fun ls hl => ?_)
          refine lv_iload hx hb d_Mo_reckon_26 (lv_at hl 0 rfl) ?_
          refine lv_if_eq (tgt := 46) hx hb d_Mo_reckon_28 (by decide) (fun _ => ?_) (fun h => absurd (by decide) h)
          refine lv_iload_n hx hb d_Mo_reckon_46 rfl (lv_at hl 3 rfl) ?_
          refine lv_bipush (v := 32) hx hb d_Mo_reckon_47 (by decide) ?_
          refine lv_icmp_ne (tgt := 71) hx hb d_Mo_reckon_49 (by decide) (fun h49 => ?_) (fun h49 => ?_)
          · refine lv_iload_n hx hb d_Mo_reckon_71 rfl (lv_at hl 3 rfl) ?_
            refine lv_bipush (v := 32) hx hb d_Mo_reckon_72 (by decide) ?_
            refine lv_icmp_ne (tgt := 92) hx hb d_Mo_reckon_74 (by decide) (fun _ => ?_) (fun h => absurd h h49)
            refine lv_aload_n hx hb d_Mo_reckon_92 rfl (lv_at hl 1 rfl) ?_
            refine cj_v (wc := (W_Mo cI cL b0 b1 b2 b3 b4 b5 b6 b7 ev wr wg ke ma li ps pn cy ca va cn pp px go ne gi gn)) (w1 := (W_Mo cI cL b0 b1 b2 b3 b4 b5 b6 b7 ev wr wg ke ma li ps pn cy ((f_Mo_illegal ca va px).1) ((f_Mo_illegal ca va px).2) cn pp px go ne gi gn)) hP hD hS hA [0, 1, 2, 3, 4, 5, 6, 7] rfl [b0, b1, b2, b3, b4, b5, b6, b7] rfl rfl (va_runV (rest := []) ⟨hx, hb, hml, hown, hg⟩ (c_Mo_illegal l D cI cL b0 b1 b2 b3 b4 b5 b6 b7 _ ev wr wg ke ma li ps pn cy ca va cn pp px go ne gi gn) ⟨callB_of 0 hg (gw_good m_661) rfl rfl rfl (hg _ m_71) (hg _ m_658) hd_Mo_illegal ⟨Nat.le_of_ble_eq_true rfl, Nat.le_of_ble_eq_true rfl⟩, hg _ m_660, hg _ m_51⟩ (pw_V hK hN hT hA hP hD hS [0, 1, 2, 3, 4, 5, 6, 7] rfl (by decide) (q0 := 0) (ci := 5) rfl rfl) rfl rfl hl.1 rfl (lv_room (Nat.le_of_ble_eq_true rfl)) d_Mo_reckon_93 ⟨Nat.le_of_ble_eq_true rfl, Nat.le_of_ble_eq_true rfl⟩) (fun H locs hP hD hS => ?_)
            have hP : va_P D classes (W_Mo cI cL b0 b1 b2 b3 b4 b5 b6 b7 ev wr wg ke ma li ps pn cy ((f_Mo_illegal ca va px).1) ((f_Mo_illegal ca va px).2) cn pp px go ne gi gn) H := hP
            have hD : va_D A (W_Mo cI cL b0 b1 b2 b3 b4 b5 b6 b7 ev wr wg ke ma li ps pn cy ((f_Mo_illegal ca va px).1) ((f_Mo_illegal ca va px).2) cn pp px go ne gi gn) := hD
            generalize e_t10 : f_Mo_illegal ca va px = t10 at hP hD ⊢
            obtain ⟨t10_0, t10_1⟩ := t10
            have hP : va_P D classes (W_Mo cI cL b0 b1 b2 b3 b4 b5 b6 b7 ev wr wg ke ma li ps pn cy t10_0 t10_1 cn pp px go ne gi gn) H := hP
            have hD : va_D A (W_Mo cI cL b0 b1 b2 b3 b4 b5 b6 b7 ev wr wg ke ma li ps pn cy t10_0 t10_1 cn pp px go ne gi gn) := hD
            rw [f_Mo_reckon_e9 ca va px gi gn f g a b o (t10_0, t10_1) e_t10 h1 h6 h11 h16 h49]
            exact W.vret hx hb hr (fun t ht hW => ⟨⟨(), rfl, trivial, by show va_P D classes _ t.heap; rw [ht]; exact hP⟩, hS.F ht⟩) hS.2.2 d_Mo_reckon_96 hlocks
          · refine lv_iload_n hx hb d_Mo_reckon_52 rfl (lv_at hl 2 rfl) ?_
            refine lv_iconst (v := 5) hx hb d_Mo_reckon_53 (by decide) ?_
            refine lv_icmp_ne (tgt := 71) hx hb d_Mo_reckon_54 (by decide) (fun h => absurd h16 h) (fun _ => ?_)
            refine lv_aload_n hx hb d_Mo_reckon_57 rfl (lv_at hl 1 rfl) ?_
            refine lv_iload_n hx hb d_Mo_reckon_58 rfl (lv_at hl 4 rfl) ?_
            refine lv_iload hx hb d_Mo_reckon_59 (lv_at hl 5 rfl) ?_
            refine lv_bipush (v := 31) hx hb d_Mo_reckon_61 (by decide) ?_
            refine lv_iand hx hb d_Mo_reckon_63 ?_
            refine lv_ishr hx hb d_Mo_reckon_64 ?_
            refine cj_v (wc := (W_Mo cI cL b0 b1 b2 b3 b4 b5 b6 b7 ev wr wg ke ma li ps pn cy ca va cn pp px go ne gi gn)) (w1 := (W_Mo cI cL b0 b1 b2 b3 b4 b5 b6 b7 ev wr wg ke ma li ps pn cy ca va cn pp px go ne ((f_Mo_give gi gn (a >>> ((b &&& (31 : Int32)) &&& 31))).1) ((f_Mo_give gi gn (a >>> ((b &&& (31 : Int32)) &&& 31))).2))) hP hD hS hA [0, 1, 2, 3, 4, 5, 6, 7] rfl [b0, b1, b2, b3, b4, b5, b6, b7] rfl rfl (va_runV (rest := []) ⟨hx, hb, hml, hown, hg⟩ (c_Mo_give l D cI cL b0 b1 b2 b3 b4 b5 b6 b7 _ ev wr wg ke ma li ps pn cy ca va cn pp px go ne gi gn (a >>> ((b &&& (31 : Int32)) &&& 31))) ⟨callB_of 1 hg (gw_good m_645) rfl rfl rfl (hg _ m_71) (hg _ m_642) hd_Mo_give ⟨Nat.le_of_ble_eq_true rfl, Nat.le_of_ble_eq_true rfl⟩, hg _ m_644, hg _ m_47⟩ (pw_V hK hN hT hA hP hD hS [0, 1, 2, 3, 4, 5, 6, 7] rfl (by decide) (q0 := 0) (ci := 5) rfl rfl) rfl rfl hl.1 rfl (lv_room (Nat.le_of_ble_eq_true rfl)) d_Mo_reckon_65 ⟨Nat.le_of_ble_eq_true rfl, Nat.le_of_ble_eq_true rfl⟩) (fun H locs hP hD hS => ?_)
            have hP : va_P D classes (W_Mo cI cL b0 b1 b2 b3 b4 b5 b6 b7 ev wr wg ke ma li ps pn cy ca va cn pp px go ne ((f_Mo_give gi gn (a >>> ((b &&& (31 : Int32)) &&& 31))).1) ((f_Mo_give gi gn (a >>> ((b &&& (31 : Int32)) &&& 31))).2)) H := hP
            have hD : va_D A (W_Mo cI cL b0 b1 b2 b3 b4 b5 b6 b7 ev wr wg ke ma li ps pn cy ca va cn pp px go ne ((f_Mo_give gi gn (a >>> ((b &&& (31 : Int32)) &&& 31))).1) ((f_Mo_give gi gn (a >>> ((b &&& (31 : Int32)) &&& 31))).2)) := hD
            generalize e_t11 : f_Mo_give gi gn (a >>> ((b &&& (31 : Int32)) &&& 31)) = t11 at hP hD ⊢
            obtain ⟨t11_0, t11_1⟩ := t11
            have hP : va_P D classes (W_Mo cI cL b0 b1 b2 b3 b4 b5 b6 b7 ev wr wg ke ma li ps pn cy ca va cn pp px go ne t11_0 t11_1) H := hP
            have hD : va_D A (W_Mo cI cL b0 b1 b2 b3 b4 b5 b6 b7 ev wr wg ke ma li ps pn cy ca va cn pp px go ne t11_0 t11_1) := hD
            refine lv_goto (tgt := 96) hx hb d_Mo_reckon_68 (by decide) ?_
            rw [f_Mo_reckon_e10 ca va px gi gn f g a b o (t11_0, t11_1) e_t11 h1 h6 h11 h16 h49]
            exact W.vret hx hb hr (fun t ht hW => ⟨⟨(), rfl, trivial, by show va_P D classes _ t.heap; rw [ht]; exact hP⟩, hS.F ht⟩) hS.2.2 d_Mo_reckon_96 hlocks
        · refine lv_iconst (v := 1) hx hb d_Mo_reckon_19 (by decide) ?_
          refine lv_goto (tgt := 24) hx hb d_Mo_reckon_20 (by decide) ?_
          refine lv_istore (lv' := [(6, .int _), (0, .ref _), (1, .int _), (2, .int _), (3, .int _), (4, .int _), (5, .int _)]) hx hb d_Mo_reckon_24 hl (by decide) rfl (fun ls hl => ?_)
          refine lv_iload hx hb d_Mo_reckon_26 (lv_at hl 0 rfl) ?_
          refine lv_if_eq (tgt := 46) hx hb d_Mo_reckon_28 (by decide) (fun h => absurd h (by decide)) (fun _ => ?_)
          refine lv_aload_n hx hb d_Mo_reckon_31 rfl (lv_at hl 1 rfl) ?_
          refine lv_aload_n hx hb d_Mo_reckon_32 rfl (lv_at hl 1 rfl) ?_
          refine lv_iload_n hx hb d_Mo_reckon_33 rfl (lv_at hl 2 rfl) ?_
          refine lv_iload_n hx hb d_Mo_reckon_34 rfl (lv_at hl 4 rfl) ?_
          refine lv_iload hx hb d_Mo_reckon_35 (lv_at hl 5 rfl) ?_
          refine cj_i (wc := (W_Mo cI cL b0 b1 b2 b3 b4 b5 b6 b7 ev wr wg ke ma li ps pn cy ca va cn pp px go ne gi gn)) (w1 := (W_Mo cI cL b0 b1 b2 b3 b4 b5 b6 b7 ev wr wg ke ma li ps pn cy ca va cn pp px go ne gi gn)) hP hD hS hA [0, 1, 2, 3, 4, 5, 6, 7] rfl [b0, b1, b2, b3, b4, b5, b6, b7] rfl rfl (va_runV (rest := [.ref _]) ⟨hx, hb, hml, hown, hg⟩ (c_Mo_reckoned l D cI cL b0 b1 b2 b3 b4 b5 b6 b7 _ ev wr wg ke ma li ps pn cy ca va cn pp px go ne gi gn f a b) ⟨callB_of 3 hg (gw_good m_705) rfl rfl rfl (hg _ m_71) (hg _ m_702) hd_Mo_reckoned ⟨Nat.le_of_ble_eq_true rfl, Nat.le_of_ble_eq_true rfl⟩, hg _ m_704, hg _ m_61⟩ (pw_V hK hN hT hA hP hD hS [0, 1, 2, 3, 4, 5, 6, 7] rfl (by decide) (q0 := 0) (ci := 5) rfl rfl) rfl rfl hl.1 rfl (lv_room (Nat.le_of_ble_eq_true rfl)) d_Mo_reckon_37 ⟨Nat.le_of_ble_eq_true rfl, Nat.le_of_ble_eq_true rfl⟩) (fun H locs hP hD hS => ?_)
          have hP : va_P D classes (W_Mo cI cL b0 b1 b2 b3 b4 b5 b6 b7 ev wr wg ke ma li ps pn cy ca va cn pp px go ne gi gn) H := hP
          have hD : va_D A (W_Mo cI cL b0 b1 b2 b3 b4 b5 b6 b7 ev wr wg ke ma li ps pn cy ca va cn pp px go ne gi gn) := hD
          refine cj_v (wc := (W_Mo cI cL b0 b1 b2 b3 b4 b5 b6 b7 ev wr wg ke ma li ps pn cy ca va cn pp px go ne gi gn)) (w1 := (W_Mo cI cL b0 b1 b2 b3 b4 b5 b6 b7 ev wr wg ke ma li ps pn cy ca va cn pp px go ne ((f_Mo_give gi gn (f_Mo_reckoned f a b)).1) ((f_Mo_give gi gn (f_Mo_reckoned f a b)).2))) hP hD hS hA [0, 1, 2, 3, 4, 5, 6, 7] rfl [b0, b1, b2, b3, b4, b5, b6, b7] rfl rfl (va_runV (rest := []) ⟨hx, hb, hml, hown, hg⟩ (c_Mo_give l D cI cL b0 b1 b2 b3 b4 b5 b6 b7 _ ev wr wg ke ma li ps pn cy ca va cn pp px go ne gi gn (f_Mo_reckoned f a b)) ⟨callB_of 1 hg (gw_good m_645) rfl rfl rfl (hg _ m_71) (hg _ m_642) hd_Mo_give ⟨Nat.le_of_ble_eq_true rfl, Nat.le_of_ble_eq_true rfl⟩, hg _ m_644, hg _ m_47⟩ (pw_V hK hN hT hA hP hD hS [0, 1, 2, 3, 4, 5, 6, 7] rfl (by decide) (q0 := 0) (ci := 5) rfl rfl) rfl rfl hl.1 rfl (lv_room (Nat.le_of_ble_eq_true rfl)) d_Mo_reckon_40 ⟨Nat.le_of_ble_eq_true rfl, Nat.le_of_ble_eq_true rfl⟩) (fun H locs hP hD hS => ?_)
          have hP : va_P D classes (W_Mo cI cL b0 b1 b2 b3 b4 b5 b6 b7 ev wr wg ke ma li ps pn cy ca va cn pp px go ne ((f_Mo_give gi gn (f_Mo_reckoned f a b)).1) ((f_Mo_give gi gn (f_Mo_reckoned f a b)).2)) H := hP
          have hD : va_D A (W_Mo cI cL b0 b1 b2 b3 b4 b5 b6 b7 ev wr wg ke ma li ps pn cy ca va cn pp px go ne ((f_Mo_give gi gn (f_Mo_reckoned f a b)).1) ((f_Mo_give gi gn (f_Mo_reckoned f a b)).2)) := hD
          generalize e_t12 : f_Mo_give gi gn (f_Mo_reckoned f a b) = t12 at hP hD ⊢
          obtain ⟨t12_0, t12_1⟩ := t12
          have hP : va_P D classes (W_Mo cI cL b0 b1 b2 b3 b4 b5 b6 b7 ev wr wg ke ma li ps pn cy ca va cn pp px go ne t12_0 t12_1) H := hP
          have hD : va_D A (W_Mo cI cL b0 b1 b2 b3 b4 b5 b6 b7 ev wr wg ke ma li ps pn cy ca va cn pp px go ne t12_0 t12_1) := hD
          refine lv_goto (tgt := 96) hx hb d_Mo_reckon_43 (by decide) ?_
          rw [f_Mo_reckon_e11 ca va px gi gn f g a b o (t12_0, t12_1) e_t12 h1 h6 h11 h16]
          exact W.vret hx hb hr (fun t ht hW => ⟨⟨(), rfl, trivial, by show va_P D classes _ t.heap; rw [ht]; exact hP⟩, hS.F ht⟩) hS.2.2 d_Mo_reckon_96 hlocks
abbrev q_Mo_jump (D : va_G) (cI cL : ClassId) (b0 b1 b2 b3 b4 b5 b6 b7 : Nat) (A : Nat → Prop) (ev : Int32) (wr : Nat → Int32) (wg : Nat → Int64) (ke : Nat → Int32) (ma : Nat → Int32) (li : Nat → Int64) (ps : Int32) (pn : Nat → Int32) (cy : Int32) (ca : Int32) (va : Int32) (cn : Nat → Int32) (pp : Int32) (px : Int32) (go : Int32) (ne : Int32) (gi : Int32) (gn : Int32) (F : Int32 × Int32 × Int32 × Int32 × Int32) : Array Value → State → Outcome → State → Prop := va_Qv (fun (_ : Unit) => True) (fun _ t => va_P D classes (W_Mo cI cL b0 b1 b2 b3 b4 b5 b6 b7 ev wr wg ke ma li ps pn cy F.1 F.2.1 cn pp px go F.2.2.1 F.2.2.2.1 F.2.2.2.2) t.heap) A
theorem f_Mo_jump_e0 (ca : Int32) (va : Int32) (pp : Int32) (px : Int32) (ne : Int32) (gi : Int32) (gn : Int32) (f : Int32) (v : Int32) (t1 : Int32 × Int32) (t2 : Int32 × Int32 × Int32) (e_t1 : f_Mo_give gi gn (pp + (4 : Int32)) = t1) (e_t2 : f_Mo_go ca va ne v = t2) (h1 : f = 0) : f_Mo_jump ca va pp px ne gi gn f v = (t2.1, t2.2.1, t2.2.2, t1.1, t1.2) := by
  subst e_t2
  subst e_t1
  exact (if_pos h1)
theorem f_Mo_jump_e1 (ca : Int32) (va : Int32) (pp : Int32) (px : Int32) (ne : Int32) (gi : Int32) (gn : Int32) (f : Int32) (v : Int32) (t3 : Int32 × Int32) (e_t3 : f_Mo_illegal ca va px = t3) (h1 : ¬ f = 0) : f_Mo_jump ca va pp px ne gi gn f v = (t3.1, t3.2, ne, gi, gn) := by
  subst e_t3
  exact (if_neg h1)
set_option maxHeartbeats 4000000 in
set_option maxRecDepth 100000 in
theorem c_Mo_jump (l : Launch) (D : va_G) (cI cL : ClassId) (b0 b1 b2 b3 b4 b5 b6 b7 : Nat) (sz : Nat) (ev : Int32) (wr : Nat → Int32) (wg : Nat → Int64) (ke : Nat → Int32) (ma : Nat → Int32) (li : Nat → Int64) (ps : Int32) (pn : Nat → Int32) (cy : Int32) (ca : Int32) (va : Int32) (cn : Nat → Int32) (pp : Int32) (px : Int32) (go : Int32) (ne : Int32) (gi : Int32) (gn : Int32) (f : Int32) (v : Int32)  : Met l y_Mo_jump w_Mo_jump ({ frames := 2, cells := 0, slots := 0, locals := 43 }) (va_Pc [.ref b0, .int f, .int v] (PW D cI cL (W_Mo cI cL b0 b1 b2 b3 b4 b5 b6 b7 ev wr wg ke ma li ps pn cy ca va cn pp px go ne gi gn) sz)) (q_Mo_jump D cI cL b0 b1 b2 b3 b4 b5 b6 b7 (va_A (W_Mo cI cL b0 b1 b2 b3 b4 b5 b6 b7 ev wr wg ke ma li ps pn cy ca va cn pp px go ne gi gn) sz) ev wr wg ke ma li ps pn cy ca va cn pp px go ne gi gn (f_Mo_jump ca va pp px ne gi gn f v)) 0 0 (va_A (W_Mo cI cL b0 b1 b2 b3 b4 b5 b6 b7 ev wr wg ke ma li ps pn cy ca va cn pp px go ne gi gn) sz) := by
  refine mk_met (Qf := fun A => q_Mo_jump D cI cL b0 b1 b2 b3 b4 b5 b6 b7 A ev wr wg ke ma li ps pn cy ca va cn pp px go ne gi gn (f_Mo_jump ca va pp px ne gi gn f v)) (by decide) (Nat.le_of_ble_eq_true rfl) ?_
  intro p e s m below meth c A ls hx hb hr hlocks hml hown hg hK hN hT hA hP hD hS hnm hl
  refine lv_iload_n hx hb d_Mo_jump_0 rfl (lv_at hl 1 rfl) ?_
  refine lv_if_eq (tgt := 11) hx hb d_Mo_jump_1 (by decide) (fun h1 => ?_) (fun h1 => ?_)
  · refine lv_aload_n hx hb d_Mo_jump_11 rfl (lv_at hl 0 rfl) ?_
    refine lv_aload_n hx hb d_Mo_jump_12 rfl (lv_at hl 0 rfl) ?_
    refine va_get (ci := 5) (C := R_Mo) (T := F_Mo) (N := 18) hx hb hg in_Mo hown hK hP 0 rfl rfl 12 (by decide) (hg _ m_515) (fun _ h => h) rfl d_Mo_jump_13 ?_
    refine lv_iconst (v := 4) hx hb d_Mo_jump_16 (by decide) ?_
    refine lv_iadd hx hb d_Mo_jump_17 ?_
    refine cj_v (wc := (W_Mo cI cL b0 b1 b2 b3 b4 b5 b6 b7 ev wr wg ke ma li ps pn cy ca va cn pp px go ne gi gn)) (w1 := (W_Mo cI cL b0 b1 b2 b3 b4 b5 b6 b7 ev wr wg ke ma li ps pn cy ca va cn pp px go ne ((f_Mo_give gi gn (pp + (4 : Int32))).1) ((f_Mo_give gi gn (pp + (4 : Int32))).2))) hP hD hS hA [0, 1, 2, 3, 4, 5, 6, 7] rfl [b0, b1, b2, b3, b4, b5, b6, b7] rfl rfl (va_runV (rest := []) ⟨hx, hb, hml, hown, hg⟩ (c_Mo_give l D cI cL b0 b1 b2 b3 b4 b5 b6 b7 _ ev wr wg ke ma li ps pn cy ca va cn pp px go ne gi gn (pp + (4 : Int32))) ⟨callB_of 1 hg (gw_good m_645) rfl rfl rfl (hg _ m_71) (hg _ m_642) hd_Mo_give ⟨Nat.le_of_ble_eq_true rfl, Nat.le_of_ble_eq_true rfl⟩, hg _ m_644, hg _ m_47⟩ (pw_V hK hN hT hA hP hD hS [0, 1, 2, 3, 4, 5, 6, 7] rfl (by decide) (q0 := 0) (ci := 5) rfl rfl) rfl rfl hl.1 rfl (lv_room (Nat.le_of_ble_eq_true rfl)) d_Mo_jump_18 ⟨Nat.le_of_ble_eq_true rfl, Nat.le_of_ble_eq_true rfl⟩) (fun H locs hP hD hS => ?_)
    have hP : va_P D classes (W_Mo cI cL b0 b1 b2 b3 b4 b5 b6 b7 ev wr wg ke ma li ps pn cy ca va cn pp px go ne ((f_Mo_give gi gn (pp + (4 : Int32))).1) ((f_Mo_give gi gn (pp + (4 : Int32))).2)) H := hP
    have hD : va_D A (W_Mo cI cL b0 b1 b2 b3 b4 b5 b6 b7 ev wr wg ke ma li ps pn cy ca va cn pp px go ne ((f_Mo_give gi gn (pp + (4 : Int32))).1) ((f_Mo_give gi gn (pp + (4 : Int32))).2)) := hD
    generalize e_t1 : f_Mo_give gi gn (pp + (4 : Int32)) = t1 at hP hD ⊢
    obtain ⟨t1_0, t1_1⟩ := t1
    have hP : va_P D classes (W_Mo cI cL b0 b1 b2 b3 b4 b5 b6 b7 ev wr wg ke ma li ps pn cy ca va cn pp px go ne t1_0 t1_1) H := hP
    have hD : va_D A (W_Mo cI cL b0 b1 b2 b3 b4 b5 b6 b7 ev wr wg ke ma li ps pn cy ca va cn pp px go ne t1_0 t1_1) := hD
    refine lv_aload_n hx hb d_Mo_jump_21 rfl (lv_at hl 0 rfl) ?_
    refine lv_iload_n hx hb d_Mo_jump_22 rfl (lv_at hl 2 rfl) ?_
    refine cj_v (wc := (W_Mo cI cL b0 b1 b2 b3 b4 b5 b6 b7 ev wr wg ke ma li ps pn cy ca va cn pp px go ne t1_0 t1_1)) (w1 := (W_Mo cI cL b0 b1 b2 b3 b4 b5 b6 b7 ev wr wg ke ma li ps pn cy ((f_Mo_go ca va ne v).1) ((f_Mo_go ca va ne v).2.1) cn pp px go ((f_Mo_go ca va ne v).2.2) t1_0 t1_1)) hP hD hS hA [0, 1, 2, 3, 4, 5, 6, 7] rfl [b0, b1, b2, b3, b4, b5, b6, b7] rfl rfl (va_runV (rest := []) ⟨hx, hb, hml, hown, hg⟩ (c_Mo_go l D cI cL b0 b1 b2 b3 b4 b5 b6 b7 _ ev wr wg ke ma li ps pn cy ca va cn pp px go ne t1_0 t1_1 v) ⟨callB_of 1 hg (gw_good m_653) rfl rfl rfl (hg _ m_71) (hg _ m_650) hd_Mo_go ⟨Nat.le_of_ble_eq_true rfl, Nat.le_of_ble_eq_true rfl⟩, hg _ m_652, hg _ m_49⟩ (pw_V hK hN hT hA hP hD hS [0, 1, 2, 3, 4, 5, 6, 7] rfl (by decide) (q0 := 0) (ci := 5) rfl rfl) rfl rfl hl.1 rfl (lv_room (Nat.le_of_ble_eq_true rfl)) d_Mo_jump_23 ⟨Nat.le_of_ble_eq_true rfl, Nat.le_of_ble_eq_true rfl⟩) (fun H locs hP hD hS => ?_)
    have hP : va_P D classes (W_Mo cI cL b0 b1 b2 b3 b4 b5 b6 b7 ev wr wg ke ma li ps pn cy ((f_Mo_go ca va ne v).1) ((f_Mo_go ca va ne v).2.1) cn pp px go ((f_Mo_go ca va ne v).2.2) t1_0 t1_1) H := hP
    have hD : va_D A (W_Mo cI cL b0 b1 b2 b3 b4 b5 b6 b7 ev wr wg ke ma li ps pn cy ((f_Mo_go ca va ne v).1) ((f_Mo_go ca va ne v).2.1) cn pp px go ((f_Mo_go ca va ne v).2.2) t1_0 t1_1) := hD
    generalize e_t2 : f_Mo_go ca va ne v = t2 at hP hD ⊢
    obtain ⟨t2_0, t2_1, t2_2⟩ := t2
    have hP : va_P D classes (W_Mo cI cL b0 b1 b2 b3 b4 b5 b6 b7 ev wr wg ke ma li ps pn cy t2_0 t2_1 cn pp px go t2_2 t1_0 t1_1) H := hP
    have hD : va_D A (W_Mo cI cL b0 b1 b2 b3 b4 b5 b6 b7 ev wr wg ke ma li ps pn cy t2_0 t2_1 cn pp px go t2_2 t1_0 t1_1) := hD
    rw [f_Mo_jump_e0 ca va pp px ne gi gn f v (t1_0, t1_1) (t2_0, t2_1, t2_2) e_t1 e_t2 h1]
    exact W.vret hx hb hr (fun t ht hW => ⟨⟨(), rfl, trivial, by show va_P D classes _ t.heap; rw [ht]; exact hP⟩, hS.F ht⟩) hS.2.2 d_Mo_jump_26 hlocks
  · refine lv_aload_n hx hb d_Mo_jump_4 rfl (lv_at hl 0 rfl) ?_
    refine cj_v (wc := (W_Mo cI cL b0 b1 b2 b3 b4 b5 b6 b7 ev wr wg ke ma li ps pn cy ca va cn pp px go ne gi gn)) (w1 := (W_Mo cI cL b0 b1 b2 b3 b4 b5 b6 b7 ev wr wg ke ma li ps pn cy ((f_Mo_illegal ca va px).1) ((f_Mo_illegal ca va px).2) cn pp px go ne gi gn)) hP hD hS hA [0, 1, 2, 3, 4, 5, 6, 7] rfl [b0, b1, b2, b3, b4, b5, b6, b7] rfl rfl (va_runV (rest := []) ⟨hx, hb, hml, hown, hg⟩ (c_Mo_illegal l D cI cL b0 b1 b2 b3 b4 b5 b6 b7 _ ev wr wg ke ma li ps pn cy ca va cn pp px go ne gi gn) ⟨callB_of 0 hg (gw_good m_661) rfl rfl rfl (hg _ m_71) (hg _ m_658) hd_Mo_illegal ⟨Nat.le_of_ble_eq_true rfl, Nat.le_of_ble_eq_true rfl⟩, hg _ m_660, hg _ m_51⟩ (pw_V hK hN hT hA hP hD hS [0, 1, 2, 3, 4, 5, 6, 7] rfl (by decide) (q0 := 0) (ci := 5) rfl rfl) rfl rfl hl.1 rfl (lv_room (Nat.le_of_ble_eq_true rfl)) d_Mo_jump_5 ⟨Nat.le_of_ble_eq_true rfl, Nat.le_of_ble_eq_true rfl⟩) (fun H locs hP hD hS => ?_)
    have hP : va_P D classes (W_Mo cI cL b0 b1 b2 b3 b4 b5 b6 b7 ev wr wg ke ma li ps pn cy ((f_Mo_illegal ca va px).1) ((f_Mo_illegal ca va px).2) cn pp px go ne gi gn) H := hP
    have hD : va_D A (W_Mo cI cL b0 b1 b2 b3 b4 b5 b6 b7 ev wr wg ke ma li ps pn cy ((f_Mo_illegal ca va px).1) ((f_Mo_illegal ca va px).2) cn pp px go ne gi gn) := hD
    generalize e_t3 : f_Mo_illegal ca va px = t3 at hP hD ⊢
    obtain ⟨t3_0, t3_1⟩ := t3
    have hP : va_P D classes (W_Mo cI cL b0 b1 b2 b3 b4 b5 b6 b7 ev wr wg ke ma li ps pn cy t3_0 t3_1 cn pp px go ne gi gn) H := hP
    have hD : va_D A (W_Mo cI cL b0 b1 b2 b3 b4 b5 b6 b7 ev wr wg ke ma li ps pn cy t3_0 t3_1 cn pp px go ne gi gn) := hD
    refine lv_goto (tgt := 26) hx hb d_Mo_jump_8 (by decide) ?_
    rw [f_Mo_jump_e1 ca va pp px ne gi gn f v (t3_0, t3_1) e_t3 h1]
    exact W.vret hx hb hr (fun t ht hW => ⟨⟨(), rfl, trivial, by show va_P D classes _ t.heap; rw [ht]; exact hP⟩, hS.F ht⟩) hS.2.2 d_Mo_jump_26 hlocks
abbrev q_Mo_rest (D : va_G) (cI cL : ClassId) (b0 b1 b2 b3 b4 b5 b6 b7 : Nat) (A : Nat → Prop) (ev : Int32) (wr : Nat → Int32) (wg : Nat → Int64) (ke : Nat → Int32) (ma : Nat → Int32) (li : Nat → Int64) (ps : Int32) (pn : Nat → Int32) (cy : Int32) (ca : Int32) (va : Int32) (cn : Nat → Int32) (pp : Int32) (px : Int32) (go : Int32) (ne : Int32) (gi : Int32) (gn : Int32) (F : Int32 × Int32) : Array Value → State → Outcome → State → Prop := va_Qv (fun (_ : Unit) => True) (fun _ t => va_P D classes (W_Mo cI cL b0 b1 b2 b3 b4 b5 b6 b7 ev wr wg ke ma li ps pn cy F.1 F.2 cn pp px go ne gi gn) t.heap) A
theorem f_Mo_rest_e0 (ca : Int32) (va : Int32) (px : Int32) (f : Int32) (t1 : Int32 × Int32) (e_t1 : f_Mo_illegal ca va px = t1) (h6 : ¬ px = (115 : Int32)) (h24 : ¬ px = (1048691 : Int32)) (h45 : ¬ (f_Mo_field px (0 : Int32) (7 : Int32)) = (15 : Int32)) : f_Mo_rest ca va px f = (t1.1, t1.2) := by
  subst e_t1
  exact ((if_neg h6).trans ((if_neg h24).trans (if_neg h45)))
theorem f_Mo_rest_e1 (ca : Int32) (va : Int32) (px : Int32) (f : Int32)  (h6 : ¬ px = (115 : Int32)) (h24 : ¬ px = (1048691 : Int32)) (h45 : (f_Mo_field px (0 : Int32) (7 : Int32)) = (15 : Int32)) (h49 : f = 0) : f_Mo_rest ca va px f = (ca, va) := by
  exact ((if_neg h6).trans ((if_neg h24).trans ((if_pos h45).trans (if_pos h49))))
theorem f_Mo_rest_e2 (ca : Int32) (va : Int32) (px : Int32) (f : Int32) (t2 : Int32 × Int32) (e_t2 : f_Mo_illegal ca va px = t2) (h6 : ¬ px = (115 : Int32)) (h24 : ¬ px = (1048691 : Int32)) (h45 : (f_Mo_field px (0 : Int32) (7 : Int32)) = (15 : Int32)) (h49 : ¬ f = 0) : f_Mo_rest ca va px f = (t2.1, t2.2) := by
  subst e_t2
  exact ((if_neg h6).trans ((if_neg h24).trans ((if_pos h45).trans (if_neg h49))))
theorem f_Mo_rest_e3 (ca : Int32) (va : Int32) (px : Int32) (f : Int32) (t3 : Int32 × Int32) (e_t3 : f_Mo_stop ca va (4 : Int32) (0 : Int32) = t3) (h6 : ¬ px = (115 : Int32)) (h24 : px = (1048691 : Int32)) : f_Mo_rest ca va px f = (t3.1, t3.2) := by
  subst e_t3
  exact ((if_neg h6).trans (if_pos h24))
theorem f_Mo_rest_e4 (ca : Int32) (va : Int32) (px : Int32) (f : Int32) (t4 : Int32 × Int32) (e_t4 : f_Mo_stop ca va (3 : Int32) (0 : Int32) = t4) (h6 : px = (115 : Int32)) : f_Mo_rest ca va px f = (t4.1, t4.2) := by
  subst e_t4
  exact (if_pos h6)
set_option maxHeartbeats 4000000 in
set_option maxRecDepth 100000 in
theorem c_Mo_rest (l : Launch) (D : va_G) (cI cL : ClassId) (b0 b1 b2 b3 b4 b5 b6 b7 : Nat) (sz : Nat) (ev : Int32) (wr : Nat → Int32) (wg : Nat → Int64) (ke : Nat → Int32) (ma : Nat → Int32) (li : Nat → Int64) (ps : Int32) (pn : Nat → Int32) (cy : Int32) (ca : Int32) (va : Int32) (cn : Nat → Int32) (pp : Int32) (px : Int32) (go : Int32) (ne : Int32) (gi : Int32) (gn : Int32) (f : Int32)  : Met l y_Mo_rest w_Mo_rest ({ frames := 2, cells := 0, slots := 0, locals := 42 }) (va_Pc [.ref b0, .int f] (PW D cI cL (W_Mo cI cL b0 b1 b2 b3 b4 b5 b6 b7 ev wr wg ke ma li ps pn cy ca va cn pp px go ne gi gn) sz)) (q_Mo_rest D cI cL b0 b1 b2 b3 b4 b5 b6 b7 (va_A (W_Mo cI cL b0 b1 b2 b3 b4 b5 b6 b7 ev wr wg ke ma li ps pn cy ca va cn pp px go ne gi gn) sz) ev wr wg ke ma li ps pn cy ca va cn pp px go ne gi gn (f_Mo_rest ca va px f)) 0 0 (va_A (W_Mo cI cL b0 b1 b2 b3 b4 b5 b6 b7 ev wr wg ke ma li ps pn cy ca va cn pp px go ne gi gn) sz) := by
  refine mk_met (Qf := fun A => q_Mo_rest D cI cL b0 b1 b2 b3 b4 b5 b6 b7 A ev wr wg ke ma li ps pn cy ca va cn pp px go ne gi gn (f_Mo_rest ca va px f)) (by decide) (Nat.le_of_ble_eq_true rfl) ?_
  intro p e s m below meth c A ls hx hb hr hlocks hml hown hg hK hN hT hA hP hD hS hnm hl
  refine lv_aload_n hx hb d_Mo_rest_0 rfl (lv_at hl 0 rfl) ?_
  refine va_get (ci := 5) (C := R_Mo) (T := F_Mo) (N := 18) hx hb hg in_Mo hown hK hP 0 rfl rfl 13 (by decide) (hg _ m_516) (fun _ h => h) rfl d_Mo_rest_1 ?_
  refine lv_bipush (v := 115) hx hb d_Mo_rest_4 (by decide) ?_
  refine lv_icmp_ne (tgt := 18) hx hb d_Mo_rest_6 (by decide) (fun h6 => ?_) (fun h6 => ?_)
  · refine lv_aload_n hx hb d_Mo_rest_18 rfl (lv_at hl 0 rfl) ?_
    refine va_get (ci := 5) (C := R_Mo) (T := F_Mo) (N := 18) hx hb hg in_Mo hown hK hP 0 rfl rfl 13 (by decide) (hg _ m_516) (fun _ h => h) rfl d_Mo_rest_19 ?_
    refine lv_ldc hx hb hown (hg _ m_710) d_Mo_rest_22 ?_
    refine lv_icmp_ne (tgt := 36) hx hb d_Mo_rest_24 (by decide) (fun h24 => ?_) (fun h24 => ?_)
    · refine lv_aload_n hx hb d_Mo_rest_36 rfl (lv_at hl 0 rfl) ?_
      refine lv_iconst (v := 0) hx hb d_Mo_rest_37 (by decide) ?_
      refine lv_bipush (v := 7) hx hb d_Mo_rest_38 (by decide) ?_
      refine cj_i (wc := (W_Mo cI cL b0 b1 b2 b3 b4 b5 b6 b7 ev wr wg ke ma li ps pn cy ca va cn pp px go ne gi gn)) (w1 := (W_Mo cI cL b0 b1 b2 b3 b4 b5 b6 b7 ev wr wg ke ma li ps pn cy ca va cn pp px go ne gi gn)) hP hD hS hA [0, 1, 2, 3, 4, 5, 6, 7] rfl [b0, b1, b2, b3, b4, b5, b6, b7] rfl rfl (va_runV (rest := []) ⟨hx, hb, hml, hown, hg⟩ (c_Mo_field l D cI cL b0 b1 b2 b3 b4 b5 b6 b7 _ ev wr wg ke ma li ps pn cy ca va cn pp px go ne gi gn (0 : Int32) (7 : Int32)) ⟨callB_of 2 hg (gw_good m_637) rfl rfl rfl (hg _ m_71) (hg _ m_634) hd_Mo_field ⟨Nat.le_of_ble_eq_true rfl, Nat.le_of_ble_eq_true rfl⟩, hg _ m_636, hg _ m_45⟩ (pw_V hK hN hT hA hP hD hS [0, 1, 2, 3, 4, 5, 6, 7] rfl (by decide) (q0 := 0) (ci := 5) rfl rfl) rfl rfl hl.1 rfl (lv_room (Nat.le_of_ble_eq_true rfl)) d_Mo_rest_40 ⟨Nat.le_of_ble_eq_true rfl, Nat.le_of_ble_eq_true rfl⟩) (fun H locs hP hD hS => ?_)
      have hP : va_P D classes (W_Mo cI cL b0 b1 b2 b3 b4 b5 b6 b7 ev wr wg ke ma li ps pn cy ca va cn pp px go ne gi gn) H := hP
      have hD : va_D A (W_Mo cI cL b0 b1 b2 b3 b4 b5 b6 b7 ev wr wg ke ma li ps pn cy ca va cn pp px go ne gi gn) := hD
      refine lv_bipush (v := 15) hx hb d_Mo_rest_43 (by decide) ?_
      refine lv_icmp_ne (tgt := 52) hx hb d_Mo_rest_45 (by decide) (fun h45 => ?_) (fun h45 => ?_)
      · refine lv_aload_n hx hb d_Mo_rest_52 rfl (lv_at hl 0 rfl) ?_
        refine cj_v (wc := (W_Mo cI cL b0 b1 b2 b3 b4 b5 b6 b7 ev wr wg ke ma li ps pn cy ca va cn pp px go ne gi gn)) (w1 := (W_Mo cI cL b0 b1 b2 b3 b4 b5 b6 b7 ev wr wg ke ma li ps pn cy ((f_Mo_illegal ca va px).1) ((f_Mo_illegal ca va px).2) cn pp px go ne gi gn)) hP hD hS hA [0, 1, 2, 3, 4, 5, 6, 7] rfl [b0, b1, b2, b3, b4, b5, b6, b7] rfl rfl (va_runV (rest := []) ⟨hx, hb, hml, hown, hg⟩ (c_Mo_illegal l D cI cL b0 b1 b2 b3 b4 b5 b6 b7 _ ev wr wg ke ma li ps pn cy ca va cn pp px go ne gi gn) ⟨callB_of 0 hg (gw_good m_661) rfl rfl rfl (hg _ m_71) (hg _ m_658) hd_Mo_illegal ⟨Nat.le_of_ble_eq_true rfl, Nat.le_of_ble_eq_true rfl⟩, hg _ m_660, hg _ m_51⟩ (pw_V hK hN hT hA hP hD hS [0, 1, 2, 3, 4, 5, 6, 7] rfl (by decide) (q0 := 0) (ci := 5) rfl rfl) rfl rfl hl.1 rfl (lv_room (Nat.le_of_ble_eq_true rfl)) d_Mo_rest_53 ⟨Nat.le_of_ble_eq_true rfl, Nat.le_of_ble_eq_true rfl⟩) (fun H locs hP hD hS => ?_)
        have hP : va_P D classes (W_Mo cI cL b0 b1 b2 b3 b4 b5 b6 b7 ev wr wg ke ma li ps pn cy ((f_Mo_illegal ca va px).1) ((f_Mo_illegal ca va px).2) cn pp px go ne gi gn) H := hP
        have hD : va_D A (W_Mo cI cL b0 b1 b2 b3 b4 b5 b6 b7 ev wr wg ke ma li ps pn cy ((f_Mo_illegal ca va px).1) ((f_Mo_illegal ca va px).2) cn pp px go ne gi gn) := hD
        generalize e_t1 : f_Mo_illegal ca va px = t1 at hP hD ⊢
        obtain ⟨t1_0, t1_1⟩ := t1
        have hP : va_P D classes (W_Mo cI cL b0 b1 b2 b3 b4 b5 b6 b7 ev wr wg ke ma li ps pn cy t1_0 t1_1 cn pp px go ne gi gn) H := hP
        have hD : va_D A (W_Mo cI cL b0 b1 b2 b3 b4 b5 b6 b7 ev wr wg ke ma li ps pn cy t1_0 t1_1 cn pp px go ne gi gn) := hD
        rw [f_Mo_rest_e0 ca va px f (t1_0, t1_1) e_t1 h6 h24 h45]
        exact W.vret hx hb hr (fun t ht hW => ⟨⟨(), rfl, trivial, by show va_P D classes _ t.heap; rw [ht]; exact hP⟩, hS.F ht⟩) hS.2.2 d_Mo_rest_56 hlocks
      · refine lv_iload_n hx hb d_Mo_rest_48 rfl (lv_at hl 1 rfl) ?_
        refine lv_if_eq (tgt := 56) hx hb d_Mo_rest_49 (by decide) (fun h49 => ?_) (fun h49 => ?_)
        · rw [f_Mo_rest_e1 ca va px f h6 h24 h45 h49]
          exact W.vret hx hb hr (fun t ht hW => ⟨⟨(), rfl, trivial, by show va_P D classes _ t.heap; rw [ht]; exact hP⟩, hS.F ht⟩) hS.2.2 d_Mo_rest_56 hlocks
        · refine lv_aload_n hx hb d_Mo_rest_52 rfl (lv_at hl 0 rfl) ?_
          refine cj_v (wc := (W_Mo cI cL b0 b1 b2 b3 b4 b5 b6 b7 ev wr wg ke ma li ps pn cy ca va cn pp px go ne gi gn)) (w1 := (W_Mo cI cL b0 b1 b2 b3 b4 b5 b6 b7 ev wr wg ke ma li ps pn cy ((f_Mo_illegal ca va px).1) ((f_Mo_illegal ca va px).2) cn pp px go ne gi gn)) hP hD hS hA [0, 1, 2, 3, 4, 5, 6, 7] rfl [b0, b1, b2, b3, b4, b5, b6, b7] rfl rfl (va_runV (rest := []) ⟨hx, hb, hml, hown, hg⟩ (c_Mo_illegal l D cI cL b0 b1 b2 b3 b4 b5 b6 b7 _ ev wr wg ke ma li ps pn cy ca va cn pp px go ne gi gn) ⟨callB_of 0 hg (gw_good m_661) rfl rfl rfl (hg _ m_71) (hg _ m_658) hd_Mo_illegal ⟨Nat.le_of_ble_eq_true rfl, Nat.le_of_ble_eq_true rfl⟩, hg _ m_660, hg _ m_51⟩ (pw_V hK hN hT hA hP hD hS [0, 1, 2, 3, 4, 5, 6, 7] rfl (by decide) (q0 := 0) (ci := 5) rfl rfl) rfl rfl hl.1 rfl (lv_room (Nat.le_of_ble_eq_true rfl)) d_Mo_rest_53 ⟨Nat.le_of_ble_eq_true rfl, Nat.le_of_ble_eq_true rfl⟩) (fun H locs hP hD hS => ?_)
          have hP : va_P D classes (W_Mo cI cL b0 b1 b2 b3 b4 b5 b6 b7 ev wr wg ke ma li ps pn cy ((f_Mo_illegal ca va px).1) ((f_Mo_illegal ca va px).2) cn pp px go ne gi gn) H := hP
          have hD : va_D A (W_Mo cI cL b0 b1 b2 b3 b4 b5 b6 b7 ev wr wg ke ma li ps pn cy ((f_Mo_illegal ca va px).1) ((f_Mo_illegal ca va px).2) cn pp px go ne gi gn) := hD
          generalize e_t2 : f_Mo_illegal ca va px = t2 at hP hD ⊢
          obtain ⟨t2_0, t2_1⟩ := t2
          have hP : va_P D classes (W_Mo cI cL b0 b1 b2 b3 b4 b5 b6 b7 ev wr wg ke ma li ps pn cy t2_0 t2_1 cn pp px go ne gi gn) H := hP
          have hD : va_D A (W_Mo cI cL b0 b1 b2 b3 b4 b5 b6 b7 ev wr wg ke ma li ps pn cy t2_0 t2_1 cn pp px go ne gi gn) := hD
          rw [f_Mo_rest_e2 ca va px f (t2_0, t2_1) e_t2 h6 h24 h45 h49]
          exact W.vret hx hb hr (fun t ht hW => ⟨⟨(), rfl, trivial, by show va_P D classes _ t.heap; rw [ht]; exact hP⟩, hS.F ht⟩) hS.2.2 d_Mo_rest_56 hlocks
    · refine lv_aload_n hx hb d_Mo_rest_27 rfl (lv_at hl 0 rfl) ?_
      refine lv_iconst (v := 4) hx hb d_Mo_rest_28 (by decide) ?_
      refine lv_iconst (v := 0) hx hb d_Mo_rest_29 (by decide) ?_
      refine cj_v (wc := (W_Mo cI cL b0 b1 b2 b3 b4 b5 b6 b7 ev wr wg ke ma li ps pn cy ca va cn pp px go ne gi gn)) (w1 := (W_Mo cI cL b0 b1 b2 b3 b4 b5 b6 b7 ev wr wg ke ma li ps pn cy ((f_Mo_stop ca va (4 : Int32) (0 : Int32)).1) ((f_Mo_stop ca va (4 : Int32) (0 : Int32)).2) cn pp px go ne gi gn)) hP hD hS hA [0, 1, 2, 3, 4, 5, 6, 7] rfl [b0, b1, b2, b3, b4, b5, b6, b7] rfl rfl (va_runV (rest := []) ⟨hx, hb, hml, hown, hg⟩ (c_Mo_stop l D cI cL b0 b1 b2 b3 b4 b5 b6 b7 _ ev wr wg ke ma li ps pn cy ca va cn pp px go ne gi gn (4 : Int32) (0 : Int32)) ⟨callB_of 2 hg (gw_good m_595) rfl rfl rfl (hg _ m_71) (hg _ m_592) hd_Mo_stop ⟨Nat.le_of_ble_eq_true rfl, Nat.le_of_ble_eq_true rfl⟩, hg _ m_594, hg _ m_40⟩ (pw_V hK hN hT hA hP hD hS [0, 1, 2, 3, 4, 5, 6, 7] rfl (by decide) (q0 := 0) (ci := 5) rfl rfl) rfl rfl hl.1 rfl (lv_room (Nat.le_of_ble_eq_true rfl)) d_Mo_rest_30 ⟨Nat.le_of_ble_eq_true rfl, Nat.le_of_ble_eq_true rfl⟩) (fun H locs hP hD hS => ?_)
      have hP : va_P D classes (W_Mo cI cL b0 b1 b2 b3 b4 b5 b6 b7 ev wr wg ke ma li ps pn cy ((f_Mo_stop ca va (4 : Int32) (0 : Int32)).1) ((f_Mo_stop ca va (4 : Int32) (0 : Int32)).2) cn pp px go ne gi gn) H := hP
      have hD : va_D A (W_Mo cI cL b0 b1 b2 b3 b4 b5 b6 b7 ev wr wg ke ma li ps pn cy ((f_Mo_stop ca va (4 : Int32) (0 : Int32)).1) ((f_Mo_stop ca va (4 : Int32) (0 : Int32)).2) cn pp px go ne gi gn) := hD
      generalize e_t3 : f_Mo_stop ca va (4 : Int32) (0 : Int32) = t3 at hP hD ⊢
      obtain ⟨t3_0, t3_1⟩ := t3
      have hP : va_P D classes (W_Mo cI cL b0 b1 b2 b3 b4 b5 b6 b7 ev wr wg ke ma li ps pn cy t3_0 t3_1 cn pp px go ne gi gn) H := hP
      have hD : va_D A (W_Mo cI cL b0 b1 b2 b3 b4 b5 b6 b7 ev wr wg ke ma li ps pn cy t3_0 t3_1 cn pp px go ne gi gn) := hD
      refine lv_goto (tgt := 56) hx hb d_Mo_rest_33 (by decide) ?_
      rw [f_Mo_rest_e3 ca va px f (t3_0, t3_1) e_t3 h6 h24]
      exact W.vret hx hb hr (fun t ht hW => ⟨⟨(), rfl, trivial, by show va_P D classes _ t.heap; rw [ht]; exact hP⟩, hS.F ht⟩) hS.2.2 d_Mo_rest_56 hlocks
  · refine lv_aload_n hx hb d_Mo_rest_9 rfl (lv_at hl 0 rfl) ?_
    refine lv_iconst (v := 3) hx hb d_Mo_rest_10 (by decide) ?_
    refine lv_iconst (v := 0) hx hb d_Mo_rest_11 (by decide) ?_
    refine cj_v (wc := (W_Mo cI cL b0 b1 b2 b3 b4 b5 b6 b7 ev wr wg ke ma li ps pn cy ca va cn pp px go ne gi gn)) (w1 := (W_Mo cI cL b0 b1 b2 b3 b4 b5 b6 b7 ev wr wg ke ma li ps pn cy ((f_Mo_stop ca va (3 : Int32) (0 : Int32)).1) ((f_Mo_stop ca va (3 : Int32) (0 : Int32)).2) cn pp px go ne gi gn)) hP hD hS hA [0, 1, 2, 3, 4, 5, 6, 7] rfl [b0, b1, b2, b3, b4, b5, b6, b7] rfl rfl (va_runV (rest := []) ⟨hx, hb, hml, hown, hg⟩ (c_Mo_stop l D cI cL b0 b1 b2 b3 b4 b5 b6 b7 _ ev wr wg ke ma li ps pn cy ca va cn pp px go ne gi gn (3 : Int32) (0 : Int32)) ⟨callB_of 2 hg (gw_good m_595) rfl rfl rfl (hg _ m_71) (hg _ m_592) hd_Mo_stop ⟨Nat.le_of_ble_eq_true rfl, Nat.le_of_ble_eq_true rfl⟩, hg _ m_594, hg _ m_40⟩ (pw_V hK hN hT hA hP hD hS [0, 1, 2, 3, 4, 5, 6, 7] rfl (by decide) (q0 := 0) (ci := 5) rfl rfl) rfl rfl hl.1 rfl (lv_room (Nat.le_of_ble_eq_true rfl)) d_Mo_rest_12 ⟨Nat.le_of_ble_eq_true rfl, Nat.le_of_ble_eq_true rfl⟩) (fun H locs hP hD hS => ?_)
    have hP : va_P D classes (W_Mo cI cL b0 b1 b2 b3 b4 b5 b6 b7 ev wr wg ke ma li ps pn cy ((f_Mo_stop ca va (3 : Int32) (0 : Int32)).1) ((f_Mo_stop ca va (3 : Int32) (0 : Int32)).2) cn pp px go ne gi gn) H := hP
    have hD : va_D A (W_Mo cI cL b0 b1 b2 b3 b4 b5 b6 b7 ev wr wg ke ma li ps pn cy ((f_Mo_stop ca va (3 : Int32) (0 : Int32)).1) ((f_Mo_stop ca va (3 : Int32) (0 : Int32)).2) cn pp px go ne gi gn) := hD
    generalize e_t4 : f_Mo_stop ca va (3 : Int32) (0 : Int32) = t4 at hP hD ⊢
    obtain ⟨t4_0, t4_1⟩ := t4
    have hP : va_P D classes (W_Mo cI cL b0 b1 b2 b3 b4 b5 b6 b7 ev wr wg ke ma li ps pn cy t4_0 t4_1 cn pp px go ne gi gn) H := hP
    have hD : va_D A (W_Mo cI cL b0 b1 b2 b3 b4 b5 b6 b7 ev wr wg ke ma li ps pn cy t4_0 t4_1 cn pp px go ne gi gn) := hD
    refine lv_goto (tgt := 56) hx hb d_Mo_rest_15 (by decide) ?_
    rw [f_Mo_rest_e4 ca va px f (t4_0, t4_1) e_t4 h6]
    exact W.vret hx hb hr (fun t ht hW => ⟨⟨(), rfl, trivial, by show va_P D classes _ t.heap; rw [ht]; exact hP⟩, hS.F ht⟩) hS.2.2 d_Mo_rest_56 hlocks
