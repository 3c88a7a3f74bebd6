abbrev q_V_isWord (D : va_G) (cI cL : ClassId) (A : Nat → Prop)  (F : Int32) : Array Value → State → Outcome → State → Prop := va_Qi (fun r (_ : Unit) => r = F) (fun _ t => va_P D classes [] t.heap) A
theorem f_V_isWord_e0 (w : Int32)  (h1 : w < 0) : f_V_isWord w = ((0 : Int32)) := by
  exact (if_pos h1)
theorem f_V_isWord_e1 (w : Int32)  (h1 : ¬ w < 0) (h7 : (64 : Int32) ≤ w) : f_V_isWord w = ((0 : Int32)) := by
  exact ((if_neg h1).trans (if_pos h7))
theorem f_V_isWord_e2 (w : Int32)  (h1 : ¬ w < 0) (h7 : ¬ (64 : Int32) ≤ w) : f_V_isWord w = ((1 : Int32)) := by
  exact ((if_neg h1).trans (if_neg h7))
set_option maxHeartbeats 4000000 in
set_option maxRecDepth 100000 in
theorem c_V_isWord (l : Launch) (D : va_G) (cI cL : ClassId) (sz : Nat)  (w : Int32)  : Met l y_V_isWord w_V_isWord ({ frames := 0, cells := 0, slots := 0, locals := 0 }) (va_Pc [.int w] (PW D cI cL [] sz)) (q_V_isWord D cI cL (va_A [] sz)  (f_V_isWord w)) 0 0 (va_A [] sz) := by
  refine mk_met (Qf := fun A => q_V_isWord D cI cL A  (f_V_isWord w)) (by decide) (Nat.le_of_ble_eq_true rfl) ?_
  intro p e s m below meth c A ls hx hb hr hlocks hml hown hg hK hN hT hA hP hD hS hnm hl
  refine lv_iload_n hx hb d_V_isWord_0 rfl (lv_at hl 0 rfl) ?_
  refine lv_if_lt (tgt := 14) hx hb d_V_isWord_1 (by decide) (fun h1 => ?_) (fun h1 => ?_)
  · refine lv_iconst (v := 0) hx hb d_V_isWord_14 (by decide) ?_
    rw [f_V_isWord_e0 w h1]
    exact W.zret hx hb hr rfl (fun t ht hW => ⟨⟨_, (), rfl, rfl, by show va_P D classes _ t.heap; rw [ht]; exact hP⟩, hS.F ht⟩) hS.2.2 d_V_isWord_15 hlocks
  · refine lv_iload_n hx hb d_V_isWord_4 rfl (lv_at hl 0 rfl) ?_
    refine lv_bipush (v := 64) hx hb d_V_isWord_5 (by decide) ?_
    refine lv_icmp_ge (tgt := 14) hx hb d_V_isWord_7 (by decide) (fun h7 => ?_) (fun h7 => ?_)
    · refine lv_iconst (v := 0) hx hb d_V_isWord_14 (by decide) ?_
      rw [f_V_isWord_e1 w h1 h7]
      exact W.zret hx hb hr rfl (fun t ht hW => ⟨⟨_, (), rfl, rfl, by show va_P D classes _ t.heap; rw [ht]; exact hP⟩, hS.F ht⟩) hS.2.2 d_V_isWord_15 hlocks
    · refine lv_iconst (v := 1) hx hb d_V_isWord_10 (by decide) ?_
      refine lv_goto (tgt := 15) hx hb d_V_isWord_11 (by decide) ?_
      rw [f_V_isWord_e2 w h1 h7]
      exact W.zret hx hb hr rfl (fun t ht hW => ⟨⟨_, (), rfl, rfl, by show va_P D classes _ t.heap; rw [ht]; exact hP⟩, hS.F ht⟩) hS.2.2 d_V_isWord_15 hlocks
abbrev q_V_isRegister (D : va_G) (cI cL : ClassId) (A : Nat → Prop)  (F : Int32) : Array Value → State → Outcome → State → Prop := va_Qi (fun r (_ : Unit) => r = F) (fun _ t => va_P D classes [] t.heap) A
theorem f_V_isRegister_e0 (w : Int32)  (h1 : w < 0) : f_V_isRegister w = ((0 : Int32)) := by
  exact (if_pos h1)
theorem f_V_isRegister_e1 (w : Int32)  (h1 : ¬ w < 0) (h7 : (32 : Int32) ≤ w) : f_V_isRegister w = ((0 : Int32)) := by
  exact ((if_neg h1).trans (if_pos h7))
theorem f_V_isRegister_e2 (w : Int32)  (h1 : ¬ w < 0) (h7 : ¬ (32 : Int32) ≤ w) : f_V_isRegister w = ((1 : Int32)) := by
  exact ((if_neg h1).trans (if_neg h7))
set_option maxHeartbeats 4000000 in
set_option maxRecDepth 100000 in
theorem c_V_isRegister (l : Launch) (D : va_G) (cI cL : ClassId) (sz : Nat)  (w : Int32)  : Met l y_V_isRegister w_V_isRegister ({ frames := 0, cells := 0, slots := 0, locals := 0 }) (va_Pc [.int w] (PW D cI cL [] sz)) (q_V_isRegister D cI cL (va_A [] sz)  (f_V_isRegister w)) 0 0 (va_A [] sz) := by
  refine mk_met (Qf := fun A => q_V_isRegister D cI cL A  (f_V_isRegister w)) (by decide) (Nat.le_of_ble_eq_true rfl) ?_
  intro p e s m below meth c A ls hx hb hr hlocks hml hown hg hK hN hT hA hP hD hS hnm hl
  refine lv_iload_n hx hb d_V_isRegister_0 rfl (lv_at hl 0 rfl) ?_
  refine lv_if_lt (tgt := 14) hx hb d_V_isRegister_1 (by decide) (fun h1 => ?_) (fun h1 => ?_)
  · refine lv_iconst (v := 0) hx hb d_V_isRegister_14 (by decide) ?_
    rw [f_V_isRegister_e0 w h1]
    exact W.zret hx hb hr rfl (fun t ht hW => ⟨⟨_, (), rfl, rfl, by show va_P D classes _ t.heap; rw [ht]; exact hP⟩, hS.F ht⟩) hS.2.2 d_V_isRegister_15 hlocks
  · refine lv_iload_n hx hb d_V_isRegister_4 rfl (lv_at hl 0 rfl) ?_
    refine lv_bipush (v := 32) hx hb d_V_isRegister_5 (by decide) ?_
    refine lv_icmp_ge (tgt := 14) hx hb d_V_isRegister_7 (by decide) (fun h7 => ?_) (fun h7 => ?_)
    · refine lv_iconst (v := 0) hx hb d_V_isRegister_14 (by decide) ?_
      rw [f_V_isRegister_e1 w h1 h7]
      exact W.zret hx hb hr rfl (fun t ht hW => ⟨⟨_, (), rfl, rfl, by show va_P D classes _ t.heap; rw [ht]; exact hP⟩, hS.F ht⟩) hS.2.2 d_V_isRegister_15 hlocks
    · refine lv_iconst (v := 1) hx hb d_V_isRegister_10 (by decide) ?_
      refine lv_goto (tgt := 15) hx hb d_V_isRegister_11 (by decide) ?_
      rw [f_V_isRegister_e2 w h1 h7]
      exact W.zret hx hb hr rfl (fun t ht hW => ⟨⟨_, (), rfl, rfl, by show va_P D classes _ t.heap; rw [ht]; exact hP⟩, hS.F ht⟩) hS.2.2 d_V_isRegister_15 hlocks
abbrev q_V_isBit (D : va_G) (cI cL : ClassId) (A : Nat → Prop)  (F : Int32) : Array Value → State → Outcome → State → Prop := va_Qi (fun r (_ : Unit) => r = F) (fun _ t => va_P D classes [] t.heap) A
theorem f_V_isBit_e0 (part : Int32) (bit : Int32)  (h1 : part < 0) : f_V_isBit part bit = ((0 : Int32)) := by
  exact (if_pos h1)
theorem f_V_isBit_e1 (part : Int32) (bit : Int32)  (h1 : ¬ part < 0) (h8 : (168 : Int32) ≤ part) : f_V_isBit part bit = ((0 : Int32)) := by
  exact ((if_neg h1).trans (if_pos h8))
theorem f_V_isBit_e2 (part : Int32) (bit : Int32)  (h1 : ¬ part < 0) (h8 : ¬ (168 : Int32) ≤ part) (h12 : 0 ≤ bit) (h20 : (64 : Int32) ≤ part) (h40 : (160 : Int32) ≤ part) (h50 : (38 : Int32) ≤ bit) : f_V_isBit part bit = ((0 : Int32)) := by
  exact ((if_neg h1).trans ((if_neg h8).trans ((if_pos h12).trans ((if_pos h20).trans ((if_pos h40).trans (if_pos h50))))))
theorem f_V_isBit_e3 (part : Int32) (bit : Int32)  (h1 : ¬ part < 0) (h8 : ¬ (168 : Int32) ≤ part) (h12 : 0 ≤ bit) (h20 : (64 : Int32) ≤ part) (h40 : (160 : Int32) ≤ part) (h50 : ¬ (38 : Int32) ≤ bit) : f_V_isBit part bit = ((1 : Int32)) := by
  exact ((if_neg h1).trans ((if_neg h8).trans ((if_pos h12).trans ((if_pos h20).trans ((if_pos h40).trans (if_neg h50))))))
theorem f_V_isBit_e4 (part : Int32) (bit : Int32)  (h1 : ¬ part < 0) (h8 : ¬ (168 : Int32) ≤ part) (h12 : 0 ≤ bit) (h20 : (64 : Int32) ≤ part) (h40 : ¬ (160 : Int32) ≤ part) (h50 : (32 : Int32) ≤ bit) : f_V_isBit part bit = ((0 : Int32)) := by
  exact ((if_neg h1).trans ((if_neg h8).trans ((if_pos h12).trans ((if_pos h20).trans ((if_neg h40).trans (if_pos h50))))))
theorem f_V_isBit_e5 (part : Int32) (bit : Int32)  (h1 : ¬ part < 0) (h8 : ¬ (168 : Int32) ≤ part) (h12 : 0 ≤ bit) (h20 : (64 : Int32) ≤ part) (h40 : ¬ (160 : Int32) ≤ part) (h50 : ¬ (32 : Int32) ≤ bit) : f_V_isBit part bit = ((1 : Int32)) := by
  exact ((if_neg h1).trans ((if_neg h8).trans ((if_pos h12).trans ((if_pos h20).trans ((if_neg h40).trans (if_neg h50))))))
theorem f_V_isBit_e6 (part : Int32) (bit : Int32)  (h1 : ¬ part < 0) (h8 : ¬ (168 : Int32) ≤ part) (h12 : 0 ≤ bit) (h20 : ¬ (64 : Int32) ≤ part) (h26 : (39 : Int32) ≤ bit) : f_V_isBit part bit = ((0 : Int32)) := by
  exact ((if_neg h1).trans ((if_neg h8).trans ((if_pos h12).trans ((if_neg h20).trans (if_pos h26)))))
theorem f_V_isBit_e7 (part : Int32) (bit : Int32)  (h1 : ¬ part < 0) (h8 : ¬ (168 : Int32) ≤ part) (h12 : 0 ≤ bit) (h20 : ¬ (64 : Int32) ≤ part) (h26 : ¬ (39 : Int32) ≤ bit) : f_V_isBit part bit = ((1 : Int32)) := by
  exact ((if_neg h1).trans ((if_neg h8).trans ((if_pos h12).trans ((if_neg h20).trans (if_neg h26)))))
theorem f_V_isBit_e8 (part : Int32) (bit : Int32)  (h1 : ¬ part < 0) (h8 : ¬ (168 : Int32) ≤ part) (h12 : ¬ 0 ≤ bit) : f_V_isBit part bit = ((0 : Int32)) := by
  exact ((if_neg h1).trans ((if_neg h8).trans (if_neg h12)))
set_option maxHeartbeats 4000000 in
set_option maxRecDepth 100000 in
theorem c_V_isBit (l : Launch) (D : va_G) (cI cL : ClassId) (sz : Nat)  (part : Int32) (bit : Int32)  : Met l y_V_isBit w_V_isBit ({ frames := 0, cells := 0, slots := 0, locals := 0 }) (va_Pc [.int part, .int bit] (PW D cI cL [] sz)) (q_V_isBit D cI cL (va_A [] sz)  (f_V_isBit part bit)) 0 0 (va_A [] sz) := by
  refine mk_met (Qf := fun A => q_V_isBit D cI cL A  (f_V_isBit part bit)) (by decide) (Nat.le_of_ble_eq_true rfl) ?_
  intro p e s m below meth c A ls hx hb hr hlocks hml hown hg hK hN hT hA hP hD hS hnm hl
  refine lv_iload_n hx hb d_V_isBit_0 rfl (lv_at hl 0 rfl) ?_
  refine lv_if_lt (tgt := 15) hx hb d_V_isBit_1 (by decide) (fun h1 => ?_) (fun h1 => ?_)
  · refine lv_iconst (v := 0) hx hb d_V_isBit_15 (by decide) ?_
    rw [f_V_isBit_e0 part bit h1]
    exact W.zret hx hb hr rfl (fun t ht hW => ⟨⟨_, (), rfl, rfl, by show va_P D classes _ t.heap; rw [ht]; exact hP⟩, hS.F ht⟩) hS.2.2 d_V_isBit_16 hlocks
  · refine lv_iload_n hx hb d_V_isBit_4 rfl (lv_at hl 0 rfl) ?_
    refine lv_sipush (v := 168) hx hb d_V_isBit_5 (by decide) ?_
    refine lv_icmp_ge (tgt := 15) hx hb d_V_isBit_8 (by decide) (fun h8 => ?_) (fun h8 => ?_)
    · refine lv_iconst (v := 0) hx hb d_V_isBit_15 (by decide) ?_
      rw [f_V_isBit_e1 part bit h1 h8]
      exact W.zret hx hb hr rfl (fun t ht hW => ⟨⟨_, (), rfl, rfl, by show va_P D classes _ t.heap; rw [ht]; exact hP⟩, hS.F ht⟩) hS.2.2 d_V_isBit_16 hlocks
    · refine lv_iload_n hx hb d_V_isBit_11 rfl (lv_at hl 1 rfl) ?_
      refine lv_if_ge (tgt := 17) hx hb d_V_isBit_12 (by decide) (fun h12 => ?_) (fun h12 => ?_)
      · refine lv_iload_n hx hb d_V_isBit_17 rfl (lv_at hl 0 rfl) ?_
        refine lv_bipush (v := 64) hx hb d_V_isBit_18 (by decide) ?_
        refine lv_icmp_ge (tgt := 35) hx hb d_V_isBit_20 (by decide) (fun h20 => ?_) (fun h20 => ?_)
        · refine lv_iload_n hx hb d_V_isBit_35 rfl (lv_at hl 1 rfl) ?_
          refine lv_iload_n hx hb d_V_isBit_36 rfl (lv_at hl 0 rfl) ?_
          refine lv_sipush (v := 160) hx hb d_V_isBit_37 (by decide) ?_
          refine lv_icmp_ge (tgt := 48) hx hb d_V_isBit_40 (by decide) (fun h40 => ?_) (fun h40 => ?_)
          · refine lv_bipush (v := 38) hx hb d_V_isBit_48 (by decide) ?_
            refine lv_icmp_ge (tgt := 57) hx hb d_V_isBit_50 (by decide) (fun h50 => ?_) (fun h50 => ?_)
            · refine lv_iconst (v := 0) hx hb d_V_isBit_57 (by decide) ?_
              rw [f_V_isBit_e2 part bit h1 h8 h12 h20 h40 h50]
              exact W.zret hx hb hr rfl (fun t ht hW => ⟨⟨_, (), rfl, rfl, by show va_P D classes _ t.heap; rw [ht]; exact hP⟩, hS.F ht⟩) hS.2.2 d_V_isBit_58 hlocks
            · refine lv_iconst (v := 1) hx hb d_V_isBit_53 (by decide) ?_
              refine lv_goto (tgt := 58) hx hb d_V_isBit_54 (by decide) ?_
              rw [f_V_isBit_e3 part bit h1 h8 h12 h20 h40 h50]
              exact W.zret hx hb hr rfl (fun t ht hW => ⟨⟨_, (), rfl, rfl, by show va_P D classes _ t.heap; rw [ht]; exact hP⟩, hS.F ht⟩) hS.2.2 d_V_isBit_58 hlocks
          · refine lv_bipush (v := 32) hx hb d_V_isBit_43 (by decide) ?_
            refine lv_goto (tgt := 50) hx hb d_V_isBit_45 (by decide) ?_
            refine lv_icmp_ge (tgt := 57) hx hb d_V_isBit_50 (by decide) (fun h50 => ?_) (fun h50 => ?_)
            · refine lv_iconst (v := 0) hx hb d_V_isBit_57 (by decide) ?_
              rw [f_V_isBit_e4 part bit h1 h8 h12 h20 h40 h50]
              exact W.zret hx hb hr rfl (fun t ht hW => ⟨⟨_, (), rfl, rfl, by show va_P D classes _ t.heap; rw [ht]; exact hP⟩, hS.F ht⟩) hS.2.2 d_V_isBit_58 hlocks
            · refine lv_iconst (v := 1) hx hb d_V_isBit_53 (by decide) ?_
              refine lv_goto (tgt := 58) hx hb d_V_isBit_54 (by decide) ?_
              rw [f_V_isBit_e5 part bit h1 h8 h12 h20 h40 h50]
              exact W.zret hx hb hr rfl (fun t ht hW => ⟨⟨_, (), rfl, rfl, by show va_P D classes _ t.heap; rw [ht]; exact hP⟩, hS.F ht⟩) hS.2.2 d_V_isBit_58 hlocks
        · refine lv_iload_n hx hb d_V_isBit_23 rfl (lv_at hl 1 rfl) ?_
          refine lv_bipush (v := 39) hx hb d_V_isBit_24 (by decide) ?_
          refine lv_icmp_ge (tgt := 33) hx hb d_V_isBit_26 (by decide) (fun h26 => ?_) (fun h26 => ?_)
          · refine lv_iconst (v := 0) hx hb d_V_isBit_33 (by decide) ?_
            rw [f_V_isBit_e6 part bit h1 h8 h12 h20 h26]
            exact W.zret hx hb hr rfl (fun t ht hW => ⟨⟨_, (), rfl, rfl, by show va_P D classes _ t.heap; rw [ht]; exact hP⟩, hS.F ht⟩) hS.2.2 d_V_isBit_34 hlocks
          · refine lv_iconst (v := 1) hx hb d_V_isBit_29 (by decide) ?_
            refine lv_goto (tgt := 34) hx hb d_V_isBit_30 (by decide) ?_
            rw [f_V_isBit_e7 part bit h1 h8 h12 h20 h26]
            exact W.zret hx hb hr rfl (fun t ht hW => ⟨⟨_, (), rfl, rfl, by show va_P D classes _ t.heap; rw [ht]; exact hP⟩, hS.F ht⟩) hS.2.2 d_V_isBit_34 hlocks
      · refine lv_iconst (v := 0) hx hb d_V_isBit_15 (by decide) ?_
        rw [f_V_isBit_e8 part bit h1 h8 h12]
        exact W.zret hx hb hr rfl (fun t ht hW => ⟨⟨_, (), rfl, rfl, by show va_P D classes _ t.heap; rw [ht]; exact hP⟩, hS.F ht⟩) hS.2.2 d_V_isBit_16 hlocks
abbrev q_V_isAddress (D : va_G) (cI cL : ClassId) (A : Nat → Prop)  (F : Int32) : Array Value → State → Outcome → State → Prop := va_Qi (fun r (_ : Unit) => r = F) (fun _ t => va_P D classes [] t.heap) A
theorem f_V_isAddress_e0 (a : Int32) (z : Int32)  (h1 : a < 0) : f_V_isAddress a z = ((0 : Int32)) := by
  exact (if_pos h1)
theorem f_V_isAddress_e1 (a : Int32) (z : Int32)  (h1 : ¬ a < 0) (h8 : (255 : Int32) < a) : f_V_isAddress a z = ((0 : Int32)) := by
  exact ((if_neg h1).trans (if_pos h8))
theorem f_V_isAddress_e2 (a : Int32) (z : Int32)  (h1 : ¬ a < 0) (h8 : ¬ (255 : Int32) < a) (h16 : ¬ (a &&& (z - (1 : Int32))) = 0) : f_V_isAddress a z = ((0 : Int32)) := by
  exact ((if_neg h1).trans ((if_neg h8).trans (if_neg h16)))
theorem f_V_isAddress_e3 (a : Int32) (z : Int32)  (h1 : ¬ a < 0) (h8 : ¬ (255 : Int32) < a) (h16 : (a &&& (z - (1 : Int32))) = 0) : f_V_isAddress a z = ((1 : Int32)) := by
  exact ((if_neg h1).trans ((if_neg h8).trans (if_pos h16)))
set_option maxHeartbeats 4000000 in
set_option maxRecDepth 100000 in
theorem c_V_isAddress (l : Launch) (D : va_G) (cI cL : ClassId) (sz : Nat)  (a : Int32) (z : Int32)  : Met l y_V_isAddress w_V_isAddress ({ frames := 0, cells := 0, slots := 0, locals := 0 }) (va_Pc [.int a, .int z] (PW D cI cL [] sz)) (q_V_isAddress D cI cL (va_A [] sz)  (f_V_isAddress a z)) 0 0 (va_A [] sz) := by
  refine mk_met (Qf := fun A => q_V_isAddress D cI cL A  (f_V_isAddress a z)) (by decide) (Nat.le_of_ble_eq_true rfl) ?_
  intro p e s m below meth c A ls hx hb hr hlocks hml hown hg hK hN hT hA hP hD hS hnm hl
  refine lv_iload_n hx hb d_V_isAddress_0 rfl (lv_at hl 0 rfl) ?_
  refine lv_if_lt (tgt := 23) hx hb d_V_isAddress_1 (by decide) (fun h1 => ?_) (fun h1 => ?_)
  · refine lv_iconst (v := 0) hx hb d_V_isAddress_23 (by decide) ?_
    rw [f_V_isAddress_e0 a z h1]
    exact W.zret hx hb hr rfl (fun t ht hW => ⟨⟨_, (), rfl, rfl, by show va_P D classes _ t.heap; rw [ht]; exact hP⟩, hS.F ht⟩) hS.2.2 d_V_isAddress_24 hlocks
  · refine lv_iload_n hx hb d_V_isAddress_4 rfl (lv_at hl 0 rfl) ?_
    refine lv_sipush (v := 255) hx hb d_V_isAddress_5 (by decide) ?_
    refine lv_icmp_gt (tgt := 23) hx hb d_V_isAddress_8 (by decide) (fun h8 => ?_) (fun h8 => ?_)
    · refine lv_iconst (v := 0) hx hb d_V_isAddress_23 (by decide) ?_
      rw [f_V_isAddress_e1 a z h1 h8]
      exact W.zret hx hb hr rfl (fun t ht hW => ⟨⟨_, (), rfl, rfl, by show va_P D classes _ t.heap; rw [ht]; exact hP⟩, hS.F ht⟩) hS.2.2 d_V_isAddress_24 hlocks
    · refine lv_iload_n hx hb d_V_isAddress_11 rfl (lv_at hl 0 rfl) ?_
      refine lv_iload_n hx hb d_V_isAddress_12 rfl (lv_at hl 1 rfl) ?_
      refine lv_iconst (v := 1) hx hb d_V_isAddress_13 (by decide) ?_
      refine lv_isub hx hb d_V_isAddress_14 ?_
      refine lv_iand hx hb d_V_isAddress_15 ?_
      refine lv_if_ne (tgt := 23) hx hb d_V_isAddress_16 (by decide) (fun h16 => ?_) (fun h16 => ?_)
      · refine lv_iconst (v := 0) hx hb d_V_isAddress_23 (by decide) ?_
        rw [f_V_isAddress_e2 a z h1 h8 h16]
        exact W.zret hx hb hr rfl (fun t ht hW => ⟨⟨_, (), rfl, rfl, by show va_P D classes _ t.heap; rw [ht]; exact hP⟩, hS.F ht⟩) hS.2.2 d_V_isAddress_24 hlocks
      · refine lv_iconst (v := 1) hx hb d_V_isAddress_19 (by decide) ?_
        refine lv_goto (tgt := 24) hx hb d_V_isAddress_20 (by decide) ?_
        rw [f_V_isAddress_e3 a z h1 h8 h16]
        exact W.zret hx hb hr rfl (fun t ht hW => ⟨⟨_, (), rfl, rfl, by show va_P D classes _ t.heap; rw [ht]; exact hP⟩, hS.F ht⟩) hS.2.2 d_V_isAddress_24 hlocks
abbrev q_V_invert (D : va_G) (cI cL : ClassId) (a0 a1 a2 a3 a4 a5 a6 a7 a8 a9 a10 a11 a12 : Nat) (A : Nat → Prop) (ev : Int32) (K : Nat → Int64) (co : Int32) (L1 : Nat → Int64) (r1 : Int32) (L2 : Nat → Int64) (r2 : Int32) (R : Nat → Int32) (vo : Int32) (FC : Nat → Int32) (FP : Nat → Int32) (FB : Nat → Int32) (fs : Int32) (cy : Int32) (sp : Int32) (de : Int32) (ca : Int32) (va : Int32) (F : (Nat → Int64) × (Nat → Int64) × (Nat → Int64) × (Nat → Int32)) : Array Value → State → Outcome → State → Prop := va_Qv (fun (_ : Unit) => True) (fun _ t => va_P D classes (W_V cI cL a0 a1 a2 a3 a4 a5 a6 a7 a8 a9 a10 a11 a12 ev F.1 co F.2.1 r1 F.2.2.1 r2 F.2.2.2 vo FC FP FB fs cy sp de ca va) t.heap) A
theorem f_V_invert_e0 (K : Nat → Int64) (L1 : Nat → Int64) (L2 : Nat → Int64) (R : Nat → Int32) (part : Int32) (bit : Int32)  (h3 : (64 : Int32) ≤ part) (h28 : (160 : Int32) ≤ part) (h56 : (164 : Int32) ≤ part) : f_V_invert K L1 L2 R part bit = (K, L1, (vp_updL L2 (part - (164 : Int32)).toNatClampNeg ((L2 (part - (164 : Int32)).toNatClampNeg) ^^^ (u_lshl (1 : Int64) bit))), R) := by
  exact ((if_pos h3).trans ((if_pos h28).trans (if_pos h56)))
theorem f_V_invert_e1 (K : Nat → Int64) (L1 : Nat → Int64) (L2 : Nat → Int64) (R : Nat → Int32) (part : Int32) (bit : Int32)  (h3 : (64 : Int32) ≤ part) (h28 : (160 : Int32) ≤ part) (h56 : ¬ (164 : Int32) ≤ part) : f_V_invert K L1 L2 R part bit = (K, (vp_updL L1 (part - (160 : Int32)).toNatClampNeg ((L1 (part - (160 : Int32)).toNatClampNeg) ^^^ (u_lshl (1 : Int64) bit))), L2, R) := by
  exact ((if_pos h3).trans ((if_pos h28).trans (if_neg h56)))
theorem f_V_invert_e2 (K : Nat → Int64) (L1 : Nat → Int64) (L2 : Nat → Int64) (R : Nat → Int32) (part : Int32) (bit : Int32)  (h3 : (64 : Int32) ≤ part) (h28 : ¬ (160 : Int32) ≤ part) : f_V_invert K L1 L2 R part bit = (K, L1, L2, (upd R (part - (64 : Int32)).toNatClampNeg ((R (part - (64 : Int32)).toNatClampNeg) ^^^ ((1 : Int32) <<< (bit &&& 31))))) := by
  exact ((if_pos h3).trans (if_neg h28))
theorem f_V_invert_e3 (K : Nat → Int64) (L1 : Nat → Int64) (L2 : Nat → Int64) (R : Nat → Int32) (part : Int32) (bit : Int32)  (h3 : ¬ (64 : Int32) ≤ part) : f_V_invert K L1 L2 R part bit = ((vp_updL K part.toNatClampNeg ((K part.toNatClampNeg) ^^^ (u_lshl (1 : Int64) bit))), L1, L2, R) := by
  exact (if_neg h3)
set_option maxHeartbeats 4000000 in
set_option maxRecDepth 100000 in
theorem c_V_invert (l : Launch) (D : va_G) (cI cL : ClassId) (a0 a1 a2 a3 a4 a5 a6 a7 a8 a9 a10 a11 a12 : Nat) (sz : Nat) (ev : Int32) (K : Nat → Int64) (co : Int32) (L1 : Nat → Int64) (r1 : Int32) (L2 : Nat → Int64) (r2 : Int32) (R : Nat → Int32) (vo : Int32) (FC : Nat → Int32) (FP : Nat → Int32) (FB : Nat → Int32) (fs : Int32) (cy : Int32) (sp : Int32) (de : Int32) (ca : Int32) (va : Int32) (part : Int32) (bit : Int32) (h_part : vp_in part 168) : Met l y_V_invert w_V_invert ({ frames := 0, cells := 0, slots := 0, locals := 0 }) (va_Pc [.ref a0, .int part, .int bit] (PW D cI cL (W_V cI cL a0 a1 a2 a3 a4 a5 a6 a7 a8 a9 a10 a11 a12 ev K co L1 r1 L2 r2 R vo FC FP FB fs cy sp de ca va) sz)) (q_V_invert D cI cL a0 a1 a2 a3 a4 a5 a6 a7 a8 a9 a10 a11 a12 (va_A (W_V cI cL a0 a1 a2 a3 a4 a5 a6 a7 a8 a9 a10 a11 a12 ev K co L1 r1 L2 r2 R vo FC FP FB fs cy sp de ca va) sz) ev K co L1 r1 L2 r2 R vo FC FP FB fs cy sp de ca va (f_V_invert K L1 L2 R part bit)) 0 0 (va_A (W_V cI cL a0 a1 a2 a3 a4 a5 a6 a7 a8 a9 a10 a11 a12 ev K co L1 r1 L2 r2 R vo FC FP FB fs cy sp de ca va) sz) := by
  refine mk_met (Qf := fun A => q_V_invert D cI cL a0 a1 a2 a3 a4 a5 a6 a7 a8 a9 a10 a11 a12 A ev K co L1 r1 L2 r2 R vo FC FP FB fs cy sp de ca va (f_V_invert K L1 L2 R part bit)) (by decide) (Nat.le_of_ble_eq_true rfl) ?_
  intro p e s m below meth c A ls hx hb hr hlocks hml hown hg hK hN hT hA hP hD hS hnm hl
  refine lv_iload_n hx hb d_V_invert_0 rfl (lv_at hl 1 rfl) ?_
  refine lv_bipush (v := 64) hx hb d_V_invert_1 (by decide) ?_
  refine lv_icmp_ge (tgt := 24) hx hb d_V_invert_3 (by decide) (fun h3 => ?_) (fun h3 => ?_)
  · refine lv_iload_n hx hb d_V_invert_24 rfl (lv_at hl 1 rfl) ?_
    refine lv_sipush (v := 160) hx hb d_V_invert_25 (by decide) ?_
    refine lv_icmp_ge (tgt := 52) hx hb d_V_invert_28 (by decide) (fun h28 => ?_) (fun h28 => ?_)
    · refine lv_iload_n hx hb d_V_invert_52 rfl (lv_at hl 1 rfl) ?_
      refine lv_sipush (v := 164) hx hb d_V_invert_53 (by decide) ?_
      refine lv_icmp_ge (tgt := 81) hx hb d_V_invert_56 (by decide) (fun h56 => ?_) (fun h56 => ?_)
      · refine lv_aload_n hx hb d_V_invert_81 rfl (lv_at hl 0 rfl) ?_
        refine va_get (ci := 0) (C := R_V) (T := F_V) (N := 11) hx hb hg in_V hown hK hP 0 rfl rfl 3 (by decide) (hg _ m_163) (fun _ h => h) rfl d_V_invert_82 ?_
        refine va_getN (ci := 2) (C := R_Ca) (T := F_Ca) (N := 2) hx hb hg in_Ca hown hK hP 5 rfl rfl 0 (by decide) (hN.use m_107) (fun _ h => h) rfl d_V_invert_85 ?_
        refine lv_iload_n hx hb d_V_invert_88 rfl (lv_at hl 1 rfl) ?_
        refine lv_sipush (v := 164) hx hb d_V_invert_89 (by decide) ?_
        refine lv_isub hx hb d_V_invert_92 ?_
        refine lv_dup2_11 hx hb d_V_invert_93 rfl rfl ?_
        refine va_lald hx hb hK hP 6 1 rfl rfl (iv_d h_part h56) d_V_invert_94 ?_
        refine lv_lconst (v := 1) hx hb d_V_invert_95 (by decide) ?_
        refine lv_iload_n hx hb d_V_invert_96 rfl (lv_at hl 2 rfl) ?_
        refine lv_lshl (v := u_lshl _ _) hx hb d_V_invert_97 rfl ?_
        refine lv_lxor hx hb d_V_invert_98 ?_
        refine va_last hx hb hK hP hD hS 6 1 rfl rfl (iv_d h_part h56) d_V_invert_99 (fun H locs hP hD hS => ?_)
        have hP : va_P D classes (W_V cI cL a0 a1 a2 a3 a4 a5 a6 a7 a8 a9 a10 a11 a12 ev K co L1 r1 (vp_updL L2 (part - (164 : Int32)).toNatClampNeg ((L2 (part - (164 : Int32)).toNatClampNeg) ^^^ (u_lshl (1 : Int64) bit))) r2 R vo FC FP FB fs cy sp de ca va) H := hP
        have hD : va_D A (W_V cI cL a0 a1 a2 a3 a4 a5 a6 a7 a8 a9 a10 a11 a12 ev K co L1 r1 (vp_updL L2 (part - (164 : Int32)).toNatClampNeg ((L2 (part - (164 : Int32)).toNatClampNeg) ^^^ (u_lshl (1 : Int64) bit))) r2 R vo FC FP FB fs cy sp de ca va) := hD
        rw [f_V_invert_e0 K L1 L2 R part bit h3 h28 h56]
        exact W.vret hx hb hr (fun t ht hW => ⟨⟨(), rfl, trivial, by show va_P D classes _ t.heap; rw [ht]; exact hP⟩, hS.F ht⟩) hS.2.2 d_V_invert_100 hlocks
      · refine lv_aload_n hx hb d_V_invert_59 rfl (lv_at hl 0 rfl) ?_
        refine va_get (ci := 0) (C := R_V) (T := F_V) (N := 11) hx hb hg in_V hown hK hP 0 rfl rfl 2 (by decide) (hg _ m_162) (fun _ h => h) rfl d_V_invert_60 ?_
        refine va_getN (ci := 2) (C := R_Ca) (T := F_Ca) (N := 2) hx hb hg in_Ca hown hK hP 3 rfl rfl 0 (by decide) (hN.use m_107) (fun _ h => h) rfl d_V_invert_63 ?_
        refine lv_iload_n hx hb d_V_invert_66 rfl (lv_at hl 1 rfl) ?_
        refine lv_sipush (v := 160) hx hb d_V_invert_67 (by decide) ?_
        refine lv_isub hx hb d_V_invert_70 ?_
        refine lv_dup2_11 hx hb d_V_invert_71 rfl rfl ?_
        refine va_lald hx hb hK hP 4 1 rfl rfl (iv_c h28 h56) d_V_invert_72 ?_
        refine lv_lconst (v := 1) hx hb d_V_invert_73 (by decide) ?_
        refine lv_iload_n hx hb d_V_invert_74 rfl (lv_at hl 2 rfl) ?_
        refine lv_lshl (v := u_lshl _ _) hx hb d_V_invert_75 rfl ?_
        refine lv_lxor hx hb d_V_invert_76 ?_
        refine va_last hx hb hK hP hD hS 4 1 rfl rfl (iv_c h28 h56) d_V_invert_77 (fun H locs hP hD hS => ?_)
        have hP : va_P D classes (W_V cI cL a0 a1 a2 a3 a4 a5 a6 a7 a8 a9 a10 a11 a12 ev K co (vp_updL L1 (part - (160 : Int32)).toNatClampNeg ((L1 (part - (160 : Int32)).toNatClampNeg) ^^^ (u_lshl (1 : Int64) bit))) r1 L2 r2 R vo FC FP FB fs cy sp de ca va) H := hP
        have hD : va_D A (W_V cI cL a0 a1 a2 a3 a4 a5 a6 a7 a8 a9 a10 a11 a12 ev K co (vp_updL L1 (part - (160 : Int32)).toNatClampNeg ((L1 (part - (160 : Int32)).toNatClampNeg) ^^^ (u_lshl (1 : Int64) bit))) r1 L2 r2 R vo FC FP FB fs cy sp de ca va) := hD
        refine lv_goto (tgt := 100) hx hb d_V_invert_78 (by decide) ?_
        rw [f_V_invert_e1 K L1 L2 R part bit h3 h28 h56]
        exact W.vret hx hb hr (fun t ht hW => ⟨⟨(), rfl, trivial, by show va_P D classes _ t.heap; rw [ht]; exact hP⟩, hS.F ht⟩) hS.2.2 d_V_invert_100 hlocks
    · refine lv_aload_n hx hb d_V_invert_31 rfl (lv_at hl 0 rfl) ?_
      refine va_get (ci := 0) (C := R_V) (T := F_V) (N := 11) hx hb hg in_V hown hK hP 0 rfl rfl 4 (by decide) (hg _ m_164) (fun _ h => h) rfl d_V_invert_32 ?_
      refine va_getN (ci := 3) (C := R_Re) (T := F_Re) (N := 2) hx hb hg in_Re hown hK hP 7 rfl rfl 0 (by decide) (hN.use m_122) (fun _ h => h) rfl d_V_invert_35 ?_
      refine lv_iload_n hx hb d_V_invert_38 rfl (lv_at hl 1 rfl) ?_
      refine lv_bipush (v := 64) hx hb d_V_invert_39 (by decide) ?_
      refine lv_isub hx hb d_V_invert_41 ?_
      refine lv_dup2_11 hx hb d_V_invert_42 rfl rfl ?_
      refine va_iald hx hb hK hP 8 0 rfl rfl (iv_b h3 h28) d_V_invert_43 ?_
      refine lv_iconst (v := 1) hx hb d_V_invert_44 (by decide) ?_
      refine lv_iload_n hx hb d_V_invert_45 rfl (lv_at hl 2 rfl) ?_
      refine lv_ishl hx hb d_V_invert_46 ?_
      refine lv_ixor hx hb d_V_invert_47 ?_
      refine va_iast hx hb hK hP hD hS 8 0 rfl rfl (iv_b h3 h28) d_V_invert_48 (fun H locs hP hD hS => ?_)
      have hP : va_P D classes (W_V cI cL a0 a1 a2 a3 a4 a5 a6 a7 a8 a9 a10 a11 a12 ev K co L1 r1 L2 r2 (upd R (part - (64 : Int32)).toNatClampNeg ((R (part - (64 : Int32)).toNatClampNeg) ^^^ ((1 : Int32) <<< (bit &&& 31)))) vo FC FP FB fs cy sp de ca va) H := hP
      have hD : va_D A (W_V cI cL a0 a1 a2 a3 a4 a5 a6 a7 a8 a9 a10 a11 a12 ev K co L1 r1 L2 r2 (upd R (part - (64 : Int32)).toNatClampNeg ((R (part - (64 : Int32)).toNatClampNeg) ^^^ ((1 : Int32) <<< (bit &&& 31)))) vo FC FP FB fs cy sp de ca va) := hD
      refine lv_goto (tgt := 100) hx hb d_V_invert_49 (by decide) ?_
      rw [f_V_invert_e2 K L1 L2 R part bit h3 h28]
      exact W.vret hx hb hr (fun t ht hW => ⟨⟨(), rfl, trivial, by show va_P D classes _ t.heap; rw [ht]; exact hP⟩, hS.F ht⟩) hS.2.2 d_V_invert_100 hlocks
  · refine lv_aload_n hx hb d_V_invert_6 rfl (lv_at hl 0 rfl) ?_
    refine va_get (ci := 0) (C := R_V) (T := F_V) (N := 11) hx hb hg in_V hown hK hP 0 rfl rfl 1 (by decide) (hg _ m_161) (fun _ h => h) rfl d_V_invert_7 ?_
    refine va_getN (ci := 1) (C := R_Me) (T := F_Me) (N := 2) hx hb hg in_Me hown hK hP 1 rfl rfl 0 (by decide) (hN.use m_91) (fun _ h => h) rfl d_V_invert_10 ?_
    refine lv_iload_n hx hb d_V_invert_13 rfl (lv_at hl 1 rfl) ?_
    refine lv_dup2_11 hx hb d_V_invert_14 rfl rfl ?_
    refine va_lald hx hb hK hP 2 1 rfl rfl (iv_a h_part h3) d_V_invert_15 ?_
    refine lv_lconst (v := 1) hx hb d_V_invert_16 (by decide) ?_
    refine lv_iload_n hx hb d_V_invert_17 rfl (lv_at hl 2 rfl) ?_
    refine lv_lshl (v := u_lshl _ _) hx hb d_V_invert_18 rfl ?_
    refine lv_lxor hx hb d_V_invert_19 ?_
    refine va_last hx hb hK hP hD hS 2 1 rfl rfl (iv_a h_part h3) d_V_invert_20 (fun H locs hP hD hS => ?_)
    have hP : va_P D classes (W_V cI cL a0 a1 a2 a3 a4 a5 a6 a7 a8 a9 a10 a11 a12 ev (vp_updL K part.toNatClampNeg ((K part.toNatClampNeg) ^^^ (u_lshl (1 : Int64) bit))) co L1 r1 L2 r2 R vo FC FP FB fs cy sp de ca va) H := hP
    have hD : va_D A (W_V cI cL a0 a1 a2 a3 a4 a5 a6 a7 a8 a9 a10 a11 a12 ev (vp_updL K part.toNatClampNeg ((K part.toNatClampNeg) ^^^ (u_lshl (1 : Int64) bit))) co L1 r1 L2 r2 R vo FC FP FB fs cy sp de ca va) := hD
    refine lv_goto (tgt := 100) hx hb d_V_invert_21 (by decide) ?_
    rw [f_V_invert_e3 K L1 L2 R part bit h3]
    exact W.vret hx hb hr (fun t ht hW => ⟨⟨(), rfl, trivial, by show va_P D classes _ t.heap; rw [ht]; exact hP⟩, hS.F ht⟩) hS.2.2 d_V_invert_100 hlocks
abbrev q_V_write (D : va_G) (cI cL : ClassId) (a0 a1 a2 a3 a4 a5 a6 a7 a8 a9 a10 a11 a12 : Nat) (A : Nat → Prop) (ev : Int32) (K : Nat → Int64) (co : Int32) (L1 : Nat → Int64) (r1 : Int32) (L2 : Nat → Int64) (r2 : Int32) (R : Nat → Int32) (vo : Int32) (FC : Nat → Int32) (FP : Nat → Int32) (FB : Nat → Int32) (fs : Int32) (cy : Int32) (sp : Int32) (de : Int32) (ca : Int32) (va : Int32) (F : Int32 × (Nat → Int64) × (Nat → Int64) × (Nat → Int64)) : Array Value → State → Outcome → State → Prop := va_Qi (fun r (_ : Unit) => r = F.1) (fun _ t => va_P D classes (W_V cI cL a0 a1 a2 a3 a4 a5 a6 a7 a8 a9 a10 a11 a12 ev F.2.1 co F.2.2.1 r1 F.2.2.2 r2 R vo FC FP FB fs cy sp de ca va) t.heap) A
theorem f_V_write_e0 (K : Nat → Int64) (L1 : Nat → Int64) (L2 : Nat → Int64) (w : Int32) (v : Int32)  (h4 : ¬ (f_V_isWord w) = 0) : f_V_write K L1 L2 w v = ((1 : Int32), (f_Me_keep K w v), (f_Ca_dropAll L1), (f_Ca_dropAll L2)) := by
  exact (if_neg h4)
theorem f_V_write_e1 (K : Nat → Int64) (L1 : Nat → Int64) (L2 : Nat → Int64) (w : Int32) (v : Int32)  (h4 : (f_V_isWord w) = 0) : f_V_write K L1 L2 w v = ((0 : Int32), K, L1, L2) := by
  exact (if_pos h4)
set_option maxHeartbeats 4000000 in
set_option maxRecDepth 100000 in
theorem c_V_write (l : Launch) (D : va_G) (cI cL : ClassId) (a0 a1 a2 a3 a4 a5 a6 a7 a8 a9 a10 a11 a12 : Nat) (sz : Nat) (ev : Int32) (K : Nat → Int64) (co : Int32) (L1 : Nat → Int64) (r1 : Int32) (L2 : Nat → Int64) (r2 : Int32) (R : Nat → Int32) (vo : Int32) (FC : Nat → Int32) (FP : Nat → Int32) (FB : Nat → Int32) (fs : Int32) (cy : Int32) (sp : Int32) (de : Int32) (ca : Int32) (va : Int32) (w : Int32) (v : Int32)  : Met l y_V_write w_V_write ({ frames := 3, cells := 0, slots := 0, locals := 70 }) (va_Pc [.ref a0, .int w, .int v] (PW D cI cL (W_V cI cL a0 a1 a2 a3 a4 a5 a6 a7 a8 a9 a10 a11 a12 ev K co L1 r1 L2 r2 R vo FC FP FB fs cy sp de ca va) sz)) (q_V_write D cI cL a0 a1 a2 a3 a4 a5 a6 a7 a8 a9 a10 a11 a12 (va_A (W_V cI cL a0 a1 a2 a3 a4 a5 a6 a7 a8 a9 a10 a11 a12 ev K co L1 r1 L2 r2 R vo FC FP FB fs cy sp de ca va) sz) ev K co L1 r1 L2 r2 R vo FC FP FB fs cy sp de ca va (f_V_write K L1 L2 w v)) 0 0 (va_A (W_V cI cL a0 a1 a2 a3 a4 a5 a6 a7 a8 a9 a10 a11 a12 ev K co L1 r1 L2 r2 R vo FC FP FB fs cy sp de ca va) sz) := by
  refine mk_met (Qf := fun A => q_V_write D cI cL a0 a1 a2 a3 a4 a5 a6 a7 a8 a9 a10 a11 a12 A ev K co L1 r1 L2 r2 R vo FC FP FB fs cy sp de ca va (f_V_write K L1 L2 w v)) (by decide) (Nat.le_of_ble_eq_true rfl) ?_
  intro p e s m below meth c A ls hx hb hr hlocks hml hown hg hK hN hT hA hP hD hS hnm hl
  refine lv_iload_n hx hb d_V_write_0 rfl (lv_at hl 1 rfl) ?_
  refine cj_i (wc := []) (w1 := []) hP hD hS hA [] rfl [] rfl rfl (va_runS (rest := []) ⟨hx, hb, hml, hown, hg⟩ (c_V_isWord l D cI cL  _ w) ⟨callB_of 1 hg (gw_good m_200) rfl rfl rfl (hg _ m_65) (hg _ m_198) hd_V_isWord ⟨Nat.le_of_ble_eq_true rfl, Nat.le_of_ble_eq_true rfl⟩, hg _ m_199⟩ (pw_S hK hN hT hA hP hD hS [] rfl (by decide)) rfl rfl hl.1 rfl (lv_room (Nat.le_of_ble_eq_true rfl)) d_V_write_1 ⟨Nat.le_of_ble_eq_true rfl, Nat.le_of_ble_eq_true rfl⟩) (fun H locs hP hD hS => ?_)
  have hP : va_P D classes (W_V cI cL a0 a1 a2 a3 a4 a5 a6 a7 a8 a9 a10 a11 a12 ev K co L1 r1 L2 r2 R vo FC FP FB fs cy sp de ca va) H := hP
  have hD : va_D A (W_V cI cL a0 a1 a2 a3 a4 a5 a6 a7 a8 a9 a10 a11 a12 ev K co L1 r1 L2 r2 R vo FC FP FB fs cy sp de ca va) := hD
  refine lv_if_ne (tgt := 9) hx hb d_V_write_4 (by decide) (fun h4 => ?_) (fun h4 => ?_)
  · refine lv_aload_n hx hb d_V_write_9 rfl (lv_at hl 0 rfl) ?_
    refine va_get (ci := 0) (C := R_V) (T := F_V) (N := 11) hx hb hg in_V hown hK hP 0 rfl rfl 1 (by decide) (hg _ m_161) (fun _ h => h) rfl d_V_write_10 ?_
    refine lv_iload_n hx hb d_V_write_13 rfl (lv_at hl 1 rfl) ?_
    refine lv_iload_n hx hb d_V_write_14 rfl (lv_at hl 2 rfl) ?_
    refine cj_v (wc := (W_Me cI cL a1 a2 K co)) (w1 := (W_Me cI cL a1 a2 (f_Me_keep K w v) co)) hP hD hS hA [1, 2] rfl [a1, a2] rfl rfl (va_runVN (rest := []) ⟨hx, hb, hml, hown, hg⟩ (c_Me_keep l D cI cL a1 a2 _ K co w v (in_word h4)) ⟨va_cnB 2 hg (gw_good m_204) rfl rfl rfl (hN _ m_201) (hg _ m_66) hd_Me_keep ⟨Nat.le_of_ble_eq_true rfl, Nat.le_of_ble_eq_true rfl⟩, hg _ m_203, hg _ m_0⟩ (pw_V hK hN hT hA hP hD hS [1, 2] rfl (by decide) (q0 := 1) (ci := 1) rfl rfl) rfl rfl hl.1 rfl (lv_room (Nat.le_of_ble_eq_true rfl)) d_V_write_15 ⟨Nat.le_of_ble_eq_true rfl, Nat.le_of_ble_eq_true rfl⟩) (fun H locs hP hD hS => ?_)
    have hP : va_P D classes (W_V cI cL a0 a1 a2 a3 a4 a5 a6 a7 a8 a9 a10 a11 a12 ev (f_Me_keep K w v) co L1 r1 L2 r2 R vo FC FP FB fs cy sp de ca va) H := hP
    have hD : va_D A (W_V cI cL a0 a1 a2 a3 a4 a5 a6 a7 a8 a9 a10 a11 a12 ev (f_Me_keep K w v) co L1 r1 L2 r2 R vo FC FP FB fs cy sp de ca va) := hD
    refine lv_aload_n hx hb d_V_write_18 rfl (lv_at hl 0 rfl) ?_
    refine va_get (ci := 0) (C := R_V) (T := F_V) (N := 11) hx hb hg in_V hown hK hP 0 rfl rfl 2 (by decide) (hg _ m_162) (fun _ h => h) rfl d_V_write_19 ?_
    refine cj_v (wc := (W_Ca cI cL a3 a4 L1 r1)) (w1 := (W_Ca cI cL a3 a4 (f_Ca_dropAll L1) r1)) hP hD hS hA [3, 4] rfl [a3, a4] rfl rfl (va_runVN (rest := []) ⟨hx, hb, hml, hown, hg⟩ (c_Ca_dropAll l D cI cL a3 a4 _ L1 r1) ⟨va_cnB 0 hg (gw_good m_226) rfl rfl rfl (hN _ m_223) (hg _ m_67) hd_Ca_dropAll ⟨Nat.le_of_ble_eq_true rfl, Nat.le_of_ble_eq_true rfl⟩, hg _ m_225, hg _ m_1⟩ (pw_V hK hN hT hA hP hD hS [3, 4] rfl (by decide) (q0 := 3) (ci := 2) rfl rfl) rfl rfl hl.1 rfl (lv_room (Nat.le_of_ble_eq_true rfl)) d_V_write_22 ⟨Nat.le_of_ble_eq_true rfl, Nat.le_of_ble_eq_true rfl⟩) (fun H locs hP hD hS => ?_)
    have hP : va_P D classes (W_V cI cL a0 a1 a2 a3 a4 a5 a6 a7 a8 a9 a10 a11 a12 ev (f_Me_keep K w v) co (f_Ca_dropAll L1) r1 L2 r2 R vo FC FP FB fs cy sp de ca va) H := hP
    have hD : va_D A (W_V cI cL a0 a1 a2 a3 a4 a5 a6 a7 a8 a9 a10 a11 a12 ev (f_Me_keep K w v) co (f_Ca_dropAll L1) r1 L2 r2 R vo FC FP FB fs cy sp de ca va) := hD
    refine lv_aload_n hx hb d_V_write_25 rfl (lv_at hl 0 rfl) ?_
    refine va_get (ci := 0) (C := R_V) (T := F_V) (N := 11) hx hb hg in_V hown hK hP 0 rfl rfl 3 (by decide) (hg _ m_163) (fun _ h => h) rfl d_V_write_26 ?_
    refine cj_v (wc := (W_Ca cI cL a5 a6 L2 r2)) (w1 := (W_Ca cI cL a5 a6 (f_Ca_dropAll L2) r2)) hP hD hS hA [5, 6] rfl [a5, a6] rfl rfl (va_runVN (rest := []) ⟨hx, hb, hml, hown, hg⟩ (c_Ca_dropAll l D cI cL a5 a6 _ L2 r2) ⟨va_cnB 0 hg (gw_good m_226) rfl rfl rfl (hN _ m_223) (hg _ m_67) hd_Ca_dropAll ⟨Nat.le_of_ble_eq_true rfl, Nat.le_of_ble_eq_true rfl⟩, hg _ m_225, hg _ m_1⟩ (pw_V hK hN hT hA hP hD hS [5, 6] rfl (by decide) (q0 := 5) (ci := 2) rfl rfl) rfl rfl hl.1 rfl (lv_room (Nat.le_of_ble_eq_true rfl)) d_V_write_29 ⟨Nat.le_of_ble_eq_true rfl, Nat.le_of_ble_eq_true rfl⟩) (fun H locs hP hD hS => ?_)
    have hP : va_P D classes (W_V cI cL a0 a1 a2 a3 a4 a5 a6 a7 a8 a9 a10 a11 a12 ev (f_Me_keep K w v) co (f_Ca_dropAll L1) r1 (f_Ca_dropAll L2) r2 R vo FC FP FB fs cy sp de ca va) H := hP
    have hD : va_D A (W_V cI cL a0 a1 a2 a3 a4 a5 a6 a7 a8 a9 a10 a11 a12 ev (f_Me_keep K w v) co (f_Ca_dropAll L1) r1 (f_Ca_dropAll L2) r2 R vo FC FP FB fs cy sp de ca va) := hD
    refine lv_iconst (v := 1) hx hb d_V_write_32 (by decide) ?_
    rw [f_V_write_e0 K L1 L2 w v h4]
    exact W.zret hx hb hr rfl (fun t ht hW => ⟨⟨_, (), rfl, rfl, by show va_P D classes _ t.heap; rw [ht]; exact hP⟩, hS.F ht⟩) hS.2.2 d_V_write_33 hlocks
  · refine lv_iconst (v := 0) hx hb d_V_write_7 (by decide) ?_
    rw [f_V_write_e1 K L1 L2 w v h4]
    exact W.zret hx hb hr rfl (fun t ht hW => ⟨⟨_, (), rfl, rfl, by show va_P D classes _ t.heap; rw [ht]; exact hP⟩, hS.F ht⟩) hS.2.2 d_V_write_8 hlocks
abbrev q_V_set (D : va_G) (cI cL : ClassId) (a0 a1 a2 a3 a4 a5 a6 a7 a8 a9 a10 a11 a12 : Nat) (A : Nat → Prop) (ev : Int32) (K : Nat → Int64) (co : Int32) (L1 : Nat → Int64) (r1 : Int32) (L2 : Nat → Int64) (r2 : Int32) (R : Nat → Int32) (vo : Int32) (FC : Nat → Int32) (FP : Nat → Int32) (FB : Nat → Int32) (fs : Int32) (cy : Int32) (sp : Int32) (de : Int32) (ca : Int32) (va : Int32) (F : Int32 × (Nat → Int32)) : Array Value → State → Outcome → State → Prop := va_Qi (fun r (_ : Unit) => r = F.1) (fun _ t => va_P D classes (W_V cI cL a0 a1 a2 a3 a4 a5 a6 a7 a8 a9 a10 a11 a12 ev K co L1 r1 L2 r2 F.2 vo FC FP FB fs cy sp de ca va) t.heap) A
theorem f_V_set_e0 (R : Nat → Int32) (w : Int32) (v : Int32)  (h4 : ¬ (f_V_isRegister w) = 0) : f_V_set R w v = ((1 : Int32), (f_Re_put R w v)) := by
  exact (if_neg h4)
theorem f_V_set_e1 (R : Nat → Int32) (w : Int32) (v : Int32)  (h4 : (f_V_isRegister w) = 0) : f_V_set R w v = ((0 : Int32), R) := by
  exact (if_pos h4)
set_option maxHeartbeats 4000000 in
set_option maxRecDepth 100000 in
theorem c_V_set (l : Launch) (D : va_G) (cI cL : ClassId) (a0 a1 a2 a3 a4 a5 a6 a7 a8 a9 a10 a11 a12 : Nat) (sz : Nat) (ev : Int32) (K : Nat → Int64) (co : Int32) (L1 : Nat → Int64) (r1 : Int32) (L2 : Nat → Int64) (r2 : Int32) (R : Nat → Int32) (vo : Int32) (FC : Nat → Int32) (FP : Nat → Int32) (FB : Nat → Int32) (fs : Int32) (cy : Int32) (sp : Int32) (de : Int32) (ca : Int32) (va : Int32) (w : Int32) (v : Int32)  : Met l y_V_set w_V_set ({ frames := 1, cells := 0, slots := 0, locals := 22 }) (va_Pc [.ref a0, .int w, .int v] (PW D cI cL (W_V cI cL a0 a1 a2 a3 a4 a5 a6 a7 a8 a9 a10 a11 a12 ev K co L1 r1 L2 r2 R vo FC FP FB fs cy sp de ca va) sz)) (q_V_set D cI cL a0 a1 a2 a3 a4 a5 a6 a7 a8 a9 a10 a11 a12 (va_A (W_V cI cL a0 a1 a2 a3 a4 a5 a6 a7 a8 a9 a10 a11 a12 ev K co L1 r1 L2 r2 R vo FC FP FB fs cy sp de ca va) sz) ev K co L1 r1 L2 r2 R vo FC FP FB fs cy sp de ca va (f_V_set R w v)) 0 0 (va_A (W_V cI cL a0 a1 a2 a3 a4 a5 a6 a7 a8 a9 a10 a11 a12 ev K co L1 r1 L2 r2 R vo FC FP FB fs cy sp de ca va) sz) := by
  refine mk_met (Qf := fun A => q_V_set D cI cL a0 a1 a2 a3 a4 a5 a6 a7 a8 a9 a10 a11 a12 A ev K co L1 r1 L2 r2 R vo FC FP FB fs cy sp de ca va (f_V_set R w v)) (by decide) (Nat.le_of_ble_eq_true rfl) ?_
  intro p e s m below meth c A ls hx hb hr hlocks hml hown hg hK hN hT hA hP hD hS hnm hl
  refine lv_iload_n hx hb d_V_set_0 rfl (lv_at hl 1 rfl) ?_
  refine cj_i (wc := []) (w1 := []) hP hD hS hA [] rfl [] rfl rfl (va_runS (rest := []) ⟨hx, hb, hml, hown, hg⟩ (c_V_isRegister l D cI cL  _ w) ⟨callB_of 1 hg (gw_good m_236) rfl rfl rfl (hg _ m_65) (hg _ m_234) hd_V_isRegister ⟨Nat.le_of_ble_eq_true rfl, Nat.le_of_ble_eq_true rfl⟩, hg _ m_235⟩ (pw_S hK hN hT hA hP hD hS [] rfl (by decide)) rfl rfl hl.1 rfl (lv_room (Nat.le_of_ble_eq_true rfl)) d_V_set_1 ⟨Nat.le_of_ble_eq_true rfl, Nat.le_of_ble_eq_true rfl⟩) (fun H locs hP hD hS => ?_)
  have hP : va_P D classes (W_V cI cL a0 a1 a2 a3 a4 a5 a6 a7 a8 a9 a10 a11 a12 ev K co L1 r1 L2 r2 R vo FC FP FB fs cy sp de ca va) H := hP
  have hD : va_D A (W_V cI cL a0 a1 a2 a3 a4 a5 a6 a7 a8 a9 a10 a11 a12 ev K co L1 r1 L2 r2 R vo FC FP FB fs cy sp de ca va) := hD
  refine lv_if_ne (tgt := 9) hx hb d_V_set_4 (by decide) (fun h4 => ?_) (fun h4 => ?_)
  · refine lv_aload_n hx hb d_V_set_9 rfl (lv_at hl 0 rfl) ?_
    refine va_get (ci := 0) (C := R_V) (T := F_V) (N := 11) hx hb hg in_V hown hK hP 0 rfl rfl 4 (by decide) (hg _ m_164) (fun _ h => h) rfl d_V_set_10 ?_
    refine lv_iload_n hx hb d_V_set_13 rfl (lv_at hl 1 rfl) ?_
    refine lv_iload_n hx hb d_V_set_14 rfl (lv_at hl 2 rfl) ?_
    refine cj_v (wc := (W_Re cI cL a7 a8 R vo)) (w1 := (W_Re cI cL a7 a8 (f_Re_put R w v) vo)) hP hD hS hA [7, 8] rfl [a7, a8] rfl rfl (va_runVN (rest := []) ⟨hx, hb, hml, hown, hg⟩ (c_Re_put l D cI cL a7 a8 _ R vo w v (in_reg h4)) ⟨va_cnB 2 hg (gw_good m_240) rfl rfl rfl (hN _ m_237) (hg _ m_68) hd_Re_put ⟨Nat.le_of_ble_eq_true rfl, Nat.le_of_ble_eq_true rfl⟩, hg _ m_239, hg _ m_2⟩ (pw_V hK hN hT hA hP hD hS [7, 8] rfl (by decide) (q0 := 7) (ci := 3) rfl rfl) rfl rfl hl.1 rfl (lv_room (Nat.le_of_ble_eq_true rfl)) d_V_set_15 ⟨Nat.le_of_ble_eq_true rfl, Nat.le_of_ble_eq_true rfl⟩) (fun H locs hP hD hS => ?_)
    have hP : va_P D classes (W_V cI cL a0 a1 a2 a3 a4 a5 a6 a7 a8 a9 a10 a11 a12 ev K co L1 r1 L2 r2 (f_Re_put R w v) vo FC FP FB fs cy sp de ca va) H := hP
    have hD : va_D A (W_V cI cL a0 a1 a2 a3 a4 a5 a6 a7 a8 a9 a10 a11 a12 ev K co L1 r1 L2 r2 (f_Re_put R w v) vo FC FP FB fs cy sp de ca va) := hD
    refine lv_iconst (v := 1) hx hb d_V_set_18 (by decide) ?_
    rw [f_V_set_e0 R w v h4]
    exact W.zret hx hb hr rfl (fun t ht hW => ⟨⟨_, (), rfl, rfl, by show va_P D classes _ t.heap; rw [ht]; exact hP⟩, hS.F ht⟩) hS.2.2 d_V_set_19 hlocks
  · refine lv_iconst (v := 0) hx hb d_V_set_7 (by decide) ?_
    rw [f_V_set_e1 R w v h4]
    exact W.zret hx hb hr rfl (fun t ht hW => ⟨⟨_, (), rfl, rfl, by show va_P D classes _ t.heap; rw [ht]; exact hP⟩, hS.F ht⟩) hS.2.2 d_V_set_8 hlocks
abbrev q_V_register (D : va_G) (cI cL : ClassId) (a0 a1 a2 a3 a4 a5 a6 a7 a8 a9 a10 a11 a12 : Nat) (A : Nat → Prop) (ev : Int32) (K : Nat → Int64) (co : Int32) (L1 : Nat → Int64) (r1 : Int32) (L2 : Nat → Int64) (r2 : Int32) (R : Nat → Int32) (vo : Int32) (FC : Nat → Int32) (FP : Nat → Int32) (FB : Nat → Int32) (fs : Int32) (cy : Int32) (sp : Int32) (de : Int32) (ca : Int32) (va : Int32) (F : Int32) : Array Value → State → Outcome → State → Prop := va_Qi (fun r (_ : Unit) => r = F) (fun _ t => va_P D classes (W_V cI cL a0 a1 a2 a3 a4 a5 a6 a7 a8 a9 a10 a11 a12 ev K co L1 r1 L2 r2 R vo FC FP FB fs cy sp de ca va) t.heap) A
theorem f_V_register_e0 (R : Nat → Int32) (w : Int32)  (h4 : (f_V_isRegister w) = 0) : f_V_register R w = ((0 : Int32)) := by
  exact (if_pos h4)
theorem f_V_register_e1 (R : Nat → Int32) (w : Int32)  (h4 : ¬ (f_V_isRegister w) = 0) : f_V_register R w = ((f_Re_agreed R w)) := by
  exact (if_neg h4)
set_option maxHeartbeats 4000000 in
set_option maxRecDepth 100000 in
theorem c_V_register (l : Launch) (D : va_G) (cI cL : ClassId) (a0 a1 a2 a3 a4 a5 a6 a7 a8 a9 a10 a11 a12 : Nat) (sz : Nat) (ev : Int32) (K : Nat → Int64) (co : Int32) (L1 : Nat → Int64) (r1 : Int32) (L2 : Nat → Int64) (r2 : Int32) (R : Nat → Int32) (vo : Int32) (FC : Nat → Int32) (FP : Nat → Int32) (FB : Nat → Int32) (fs : Int32) (cy : Int32) (sp : Int32) (de : Int32) (ca : Int32) (va : Int32) (w : Int32)  : Met l y_V_register w_V_register ({ frames := 1, cells := 0, slots := 0, locals := 24 }) (va_Pc [.ref a0, .int w] (PW D cI cL (W_V cI cL a0 a1 a2 a3 a4 a5 a6 a7 a8 a9 a10 a11 a12 ev K co L1 r1 L2 r2 R vo FC FP FB fs cy sp de ca va) sz)) (q_V_register D cI cL a0 a1 a2 a3 a4 a5 a6 a7 a8 a9 a10 a11 a12 (va_A (W_V cI cL a0 a1 a2 a3 a4 a5 a6 a7 a8 a9 a10 a11 a12 ev K co L1 r1 L2 r2 R vo FC FP FB fs cy sp de ca va) sz) ev K co L1 r1 L2 r2 R vo FC FP FB fs cy sp de ca va (f_V_register R w)) 0 0 (va_A (W_V cI cL a0 a1 a2 a3 a4 a5 a6 a7 a8 a9 a10 a11 a12 ev K co L1 r1 L2 r2 R vo FC FP FB fs cy sp de ca va) sz) := by
  refine mk_met (Qf := fun A => q_V_register D cI cL a0 a1 a2 a3 a4 a5 a6 a7 a8 a9 a10 a11 a12 A ev K co L1 r1 L2 r2 R vo FC FP FB fs cy sp de ca va (f_V_register R w)) (by decide) (Nat.le_of_ble_eq_true rfl) ?_
  intro p e s m below meth c A ls hx hb hr hlocks hml hown hg hK hN hT hA hP hD hS hnm hl
  refine lv_iload_n hx hb d_V_register_0 rfl (lv_at hl 1 rfl) ?_
  refine cj_i (wc := []) (w1 := []) hP hD hS hA [] rfl [] rfl rfl (va_runS (rest := []) ⟨hx, hb, hml, hown, hg⟩ (c_V_isRegister l D cI cL  _ w) ⟨callB_of 1 hg (gw_good m_236) rfl rfl rfl (hg _ m_65) (hg _ m_234) hd_V_isRegister ⟨Nat.le_of_ble_eq_true rfl, Nat.le_of_ble_eq_true rfl⟩, hg _ m_235⟩ (pw_S hK hN hT hA hP hD hS [] rfl (by decide)) rfl rfl hl.1 rfl (lv_room (Nat.le_of_ble_eq_true rfl)) d_V_register_1 ⟨Nat.le_of_ble_eq_true rfl, Nat.le_of_ble_eq_true rfl⟩) (fun H locs hP hD hS => ?_)
  have hP : va_P D classes (W_V cI cL a0 a1 a2 a3 a4 a5 a6 a7 a8 a9 a10 a11 a12 ev K co L1 r1 L2 r2 R vo FC FP FB fs cy sp de ca va) H := hP
  have hD : va_D A (W_V cI cL a0 a1 a2 a3 a4 a5 a6 a7 a8 a9 a10 a11 a12 ev K co L1 r1 L2 r2 R vo FC FP FB fs cy sp de ca va) := hD
  refine lv_if_eq (tgt := 18) hx hb d_V_register_4 (by decide) (fun h4 => ?_) (fun h4 => ?_)
  · refine lv_iconst (v := 0) hx hb d_V_register_18 (by decide) ?_
    rw [f_V_register_e0 R w h4]
    exact W.iret hx hb hr (fun t ht hW => ⟨⟨_, (), rfl, rfl, by show va_P D classes _ t.heap; rw [ht]; exact hP⟩, hS.F ht⟩) hS.2.2 d_V_register_19 hlocks
  · refine lv_aload_n hx hb d_V_register_7 rfl (lv_at hl 0 rfl) ?_
    refine va_get (ci := 0) (C := R_V) (T := F_V) (N := 11) hx hb hg in_V hown hK hP 0 rfl rfl 4 (by decide) (hg _ m_164) (fun _ h => h) rfl d_V_register_8 ?_
    refine lv_iload_n hx hb d_V_register_11 rfl (lv_at hl 1 rfl) ?_
    refine cj_i (wc := (W_Re cI cL a7 a8 R vo)) (w1 := (W_Re cI cL a7 a8 R vo)) hP hD hS hA [7, 8] rfl [a7, a8] rfl rfl (va_runVN (rest := []) ⟨hx, hb, hml, hown, hg⟩ (c_Re_agreed l D cI cL a7 a8 _ R vo w (in_reg h4)) ⟨va_cnB 1 hg (gw_good m_248) rfl rfl rfl (hN _ m_245) (hg _ m_68) hd_Re_agreed ⟨Nat.le_of_ble_eq_true rfl, Nat.le_of_ble_eq_true rfl⟩, hg _ m_247, hg _ m_3⟩ (pw_V hK hN hT hA hP hD hS [7, 8] rfl (by decide) (q0 := 7) (ci := 3) rfl rfl) rfl rfl hl.1 rfl (lv_room (Nat.le_of_ble_eq_true rfl)) d_V_register_12 ⟨Nat.le_of_ble_eq_true rfl, Nat.le_of_ble_eq_true rfl⟩) (fun H locs hP hD hS => ?_)
    have hP : va_P D classes (W_V cI cL a0 a1 a2 a3 a4 a5 a6 a7 a8 a9 a10 a11 a12 ev K co L1 r1 L2 r2 R vo FC FP FB fs cy sp de ca va) H := hP
    have hD : va_D A (W_V cI cL a0 a1 a2 a3 a4 a5 a6 a7 a8 a9 a10 a11 a12 ev K co L1 r1 L2 r2 R vo FC FP FB fs cy sp de ca va) := hD
    refine lv_goto (tgt := 19) hx hb d_V_register_15 (by decide) ?_
    rw [f_V_register_e1 R w h4]
    exact W.iret hx hb hr (fun t ht hW => ⟨⟨_, (), rfl, rfl, by show va_P D classes _ t.heap; rw [ht]; exact hP⟩, hS.F ht⟩) hS.2.2 d_V_register_19 hlocks
abbrev q_V_look (D : va_G) (cI cL : ClassId) (a0 a1 a2 a3 a4 a5 a6 a7 a8 a9 a10 a11 a12 : Nat) (A : Nat → Prop) (ev : Int32) (K : Nat → Int64) (co : Int32) (L1 : Nat → Int64) (r1 : Int32) (L2 : Nat → Int64) (r2 : Int32) (R : Nat → Int32) (vo : Int32) (FC : Nat → Int32) (FP : Nat → Int32) (FB : Nat → Int32) (fs : Int32) (cy : Int32) (sp : Int32) (de : Int32) (ca : Int32) (va : Int32) (F : Int64) : Array Value → State → Outcome → State → Prop := va_Ql (fun r (_ : Unit) => r = F) (fun _ t => va_P D classes (W_V cI cL a0 a1 a2 a3 a4 a5 a6 a7 a8 a9 a10 a11 a12 ev K co L1 r1 L2 r2 R vo FC FP FB fs cy sp de ca va) t.heap) A
theorem f_V_look_e0 (K : Nat → Int64) (w : Int32)  (h4 : (f_V_isWord w) = 0) : f_V_look K w = ((-1 : Int64)) := by
  exact (if_pos h4)
theorem f_V_look_e1 (K : Nat → Int64) (w : Int32)  (h4 : ¬ (f_V_isWord w) = 0) : f_V_look K w = ((f_Me_inspect K w)) := by
  exact (if_neg h4)
set_option maxHeartbeats 4000000 in
set_option maxRecDepth 100000 in
theorem c_V_look (l : Launch) (D : va_G) (cI cL : ClassId) (a0 a1 a2 a3 a4 a5 a6 a7 a8 a9 a10 a11 a12 : Nat) (sz : Nat) (ev : Int32) (K : Nat → Int64) (co : Int32) (L1 : Nat → Int64) (r1 : Int32) (L2 : Nat → Int64) (r2 : Int32) (R : Nat → Int32) (vo : Int32) (FC : Nat → Int32) (FP : Nat → Int32) (FB : Nat → Int32) (fs : Int32) (cy : Int32) (sp : Int32) (de : Int32) (ca : Int32) (va : Int32) (w : Int32)  : Met l y_V_look w_V_look ({ frames := 4, cells := 0, slots := 0, locals := 90 }) (va_Pc [.ref a0, .int w] (PW D cI cL (W_V cI cL a0 a1 a2 a3 a4 a5 a6 a7 a8 a9 a10 a11 a12 ev K co L1 r1 L2 r2 R vo FC FP FB fs cy sp de ca va) sz)) (q_V_look D cI cL a0 a1 a2 a3 a4 a5 a6 a7 a8 a9 a10 a11 a12 (va_A (W_V cI cL a0 a1 a2 a3 a4 a5 a6 a7 a8 a9 a10 a11 a12 ev K co L1 r1 L2 r2 R vo FC FP FB fs cy sp de ca va) sz) ev K co L1 r1 L2 r2 R vo FC FP FB fs cy sp de ca va (f_V_look K w)) 0 0 (va_A (W_V cI cL a0 a1 a2 a3 a4 a5 a6 a7 a8 a9 a10 a11 a12 ev K co L1 r1 L2 r2 R vo FC FP FB fs cy sp de ca va) sz) := by
  refine mk_met (Qf := fun A => q_V_look D cI cL a0 a1 a2 a3 a4 a5 a6 a7 a8 a9 a10 a11 a12 A ev K co L1 r1 L2 r2 R vo FC FP FB fs cy sp de ca va (f_V_look K w)) (by decide) (Nat.le_of_ble_eq_true rfl) ?_
  intro p e s m below meth c A ls hx hb hr hlocks hml hown hg hK hN hT hA hP hD hS hnm hl
  refine lv_iload_n hx hb d_V_look_0 rfl (lv_at hl 1 rfl) ?_
  refine cj_i (wc := []) (w1 := []) hP hD hS hA [] rfl [] rfl rfl (va_runS (rest := []) ⟨hx, hb, hml, hown, hg⟩ (c_V_isWord l D cI cL  _ w) ⟨callB_of 1 hg (gw_good m_200) rfl rfl rfl (hg _ m_65) (hg _ m_198) hd_V_isWord ⟨Nat.le_of_ble_eq_true rfl, Nat.le_of_ble_eq_true rfl⟩, hg _ m_199⟩ (pw_S hK hN hT hA hP hD hS [] rfl (by decide)) rfl rfl hl.1 rfl (lv_room (Nat.le_of_ble_eq_true rfl)) d_V_look_1 ⟨Nat.le_of_ble_eq_true rfl, Nat.le_of_ble_eq_true rfl⟩) (fun H locs hP hD hS => ?_)
  have hP : va_P D classes (W_V cI cL a0 a1 a2 a3 a4 a5 a6 a7 a8 a9 a10 a11 a12 ev K co L1 r1 L2 r2 R vo FC FP FB fs cy sp de ca va) H := hP
  have hD : va_D A (W_V cI cL a0 a1 a2 a3 a4 a5 a6 a7 a8 a9 a10 a11 a12 ev K co L1 r1 L2 r2 R vo FC FP FB fs cy sp de ca va) := hD
  refine lv_if_eq (tgt := 18) hx hb d_V_look_4 (by decide) (fun h4 => ?_) (fun h4 => ?_)
  · refine lv_ldc2 hx hb hown (hg _ m_264) d_V_look_18 ?_
    rw [f_V_look_e0 K w h4]
    exact W.lret hx hb hr (fun t ht hW => ⟨⟨_, (), rfl, rfl, by show va_P D classes _ t.heap; rw [ht]; exact hP⟩, hS.F ht⟩) hS.2.2 d_V_look_21 hlocks
  · refine lv_aload_n hx hb d_V_look_7 rfl (lv_at hl 0 rfl) ?_
    refine va_get (ci := 0) (C := R_V) (T := F_V) (N := 11) hx hb hg in_V hown hK hP 0 rfl rfl 1 (by decide) (hg _ m_161) (fun _ h => h) rfl d_V_look_8 ?_
    refine lv_iload_n hx hb d_V_look_11 rfl (lv_at hl 1 rfl) ?_
    refine cj_l (wc := (W_Me cI cL a1 a2 K co)) (w1 := (W_Me cI cL a1 a2 K co)) hP hD hS hA [1, 2] rfl [a1, a2] rfl rfl (va_runVN (rest := []) ⟨hx, hb, hml, hown, hg⟩ (c_Me_inspect l D cI cL a1 a2 _ K co w (in_word h4)) ⟨va_cnB 1 hg (gw_good m_256) rfl rfl rfl (hN _ m_253) (hg _ m_66) hd_Me_inspect ⟨Nat.le_of_ble_eq_true rfl, Nat.le_of_ble_eq_true rfl⟩, hg _ m_255, hg _ m_4⟩ (pw_V hK hN hT hA hP hD hS [1, 2] rfl (by decide) (q0 := 1) (ci := 1) rfl rfl) rfl rfl hl.1 rfl (lv_room (Nat.le_of_ble_eq_true rfl)) d_V_look_12 ⟨Nat.le_of_ble_eq_true rfl, Nat.le_of_ble_eq_true rfl⟩) (fun H locs hP hD hS => ?_)
    have hP : va_P D classes (W_V cI cL a0 a1 a2 a3 a4 a5 a6 a7 a8 a9 a10 a11 a12 ev K co L1 r1 L2 r2 R vo FC FP FB fs cy sp de ca va) H := hP
    have hD : va_D A (W_V cI cL a0 a1 a2 a3 a4 a5 a6 a7 a8 a9 a10 a11 a12 ev K co L1 r1 L2 r2 R vo FC FP FB fs cy sp de ca va) := hD
    refine lv_goto (tgt := 21) hx hb d_V_look_15 (by decide) ?_
    rw [f_V_look_e1 K w h4]
    exact W.lret hx hb hr (fun t ht hW => ⟨⟨_, (), rfl, rfl, by show va_P D classes _ t.heap; rw [ht]; exact hP⟩, hS.F ht⟩) hS.2.2 d_V_look_21 hlocks
abbrev q_V_bits (D : va_G) (cI cL : ClassId) (a0 a1 a2 a3 a4 a5 a6 a7 a8 a9 a10 a11 a12 : Nat) (A : Nat → Prop) (ev : Int32) (K : Nat → Int64) (co : Int32) (L1 : Nat → Int64) (r1 : Int32) (L2 : Nat → Int64) (r2 : Int32) (R : Nat → Int32) (vo : Int32) (FC : Nat → Int32) (FP : Nat → Int32) (FB : Nat → Int32) (fs : Int32) (cy : Int32) (sp : Int32) (de : Int32) (ca : Int32) (va : Int32) (F : Int64) : Array Value → State → Outcome → State → Prop := va_Ql (fun r (_ : Unit) => r = F) (fun _ t => va_P D classes (W_V cI cL a0 a1 a2 a3 a4 a5 a6 a7 a8 a9 a10 a11 a12 ev K co L1 r1 L2 r2 R vo FC FP FB fs cy sp de ca va) t.heap) A
theorem f_V_bits_e0 (K : Nat → Int64) (L1 : Nat → Int64) (L2 : Nat → Int64) (R : Nat → Int32) (part : Int32)  (h1 : part < 0) : f_V_bits K L1 L2 R part = ((-1 : Int64)) := by
  exact (if_pos h1)
theorem f_V_bits_e1 (K : Nat → Int64) (L1 : Nat → Int64) (L2 : Nat → Int64) (R : Nat → Int32) (part : Int32)  (h1 : ¬ part < 0) (h8 : part < (168 : Int32)) (h18 : (64 : Int32) ≤ part) (h35 : (160 : Int32) ≤ part) (h60 : (164 : Int32) ≤ part) : f_V_bits K L1 L2 R part = ((L2 (part - (164 : Int32)).toNatClampNeg)) := by
  exact ((if_neg h1).trans ((if_pos h8).trans ((if_pos h18).trans ((if_pos h35).trans (if_pos h60)))))
theorem f_V_bits_e2 (K : Nat → Int64) (L1 : Nat → Int64) (L2 : Nat → Int64) (R : Nat → Int32) (part : Int32)  (h1 : ¬ part < 0) (h8 : part < (168 : Int32)) (h18 : (64 : Int32) ≤ part) (h35 : (160 : Int32) ≤ part) (h60 : ¬ (164 : Int32) ≤ part) : f_V_bits K L1 L2 R part = ((L1 (part - (160 : Int32)).toNatClampNeg)) := by
  exact ((if_neg h1).trans ((if_pos h8).trans ((if_pos h18).trans ((if_pos h35).trans (if_neg h60)))))
theorem f_V_bits_e3 (K : Nat → Int64) (L1 : Nat → Int64) (L2 : Nat → Int64) (R : Nat → Int32) (part : Int32)  (h1 : ¬ part < 0) (h8 : part < (168 : Int32)) (h18 : (64 : Int32) ≤ part) (h35 : ¬ (160 : Int32) ≤ part) : f_V_bits K L1 L2 R part = ((((R (part - (64 : Int32)).toNatClampNeg).toInt64) &&& (4294967295 : Int64))) := by
  exact ((if_neg h1).trans ((if_pos h8).trans ((if_pos h18).trans (if_neg h35))))
theorem f_V_bits_e4 (K : Nat → Int64) (L1 : Nat → Int64) (L2 : Nat → Int64) (R : Nat → Int32) (part : Int32)  (h1 : ¬ part < 0) (h8 : part < (168 : Int32)) (h18 : ¬ (64 : Int32) ≤ part) : f_V_bits K L1 L2 R part = ((K part.toNatClampNeg)) := by
  exact ((if_neg h1).trans ((if_pos h8).trans (if_neg h18)))
theorem f_V_bits_e5 (K : Nat → Int64) (L1 : Nat → Int64) (L2 : Nat → Int64) (R : Nat → Int32) (part : Int32)  (h1 : ¬ part < 0) (h8 : ¬ part < (168 : Int32)) : f_V_bits K L1 L2 R part = ((-1 : Int64)) := by
  exact ((if_neg h1).trans (if_neg h8))
set_option maxHeartbeats 4000000 in
set_option maxRecDepth 100000 in
theorem c_V_bits (l : Launch) (D : va_G) (cI cL : ClassId) (a0 a1 a2 a3 a4 a5 a6 a7 a8 a9 a10 a11 a12 : Nat) (sz : Nat) (ev : Int32) (K : Nat → Int64) (co : Int32) (L1 : Nat → Int64) (r1 : Int32) (L2 : Nat → Int64) (r2 : Int32) (R : Nat → Int32) (vo : Int32) (FC : Nat → Int32) (FP : Nat → Int32) (FB : Nat → Int32) (fs : Int32) (cy : Int32) (sp : Int32) (de : Int32) (ca : Int32) (va : Int32) (part : Int32)  : Met l y_V_bits w_V_bits ({ frames := 0, cells := 0, slots := 0, locals := 0 }) (va_Pc [.ref a0, .int part] (PW D cI cL (W_V cI cL a0 a1 a2 a3 a4 a5 a6 a7 a8 a9 a10 a11 a12 ev K co L1 r1 L2 r2 R vo FC FP FB fs cy sp de ca va) sz)) (q_V_bits D cI cL a0 a1 a2 a3 a4 a5 a6 a7 a8 a9 a10 a11 a12 (va_A (W_V cI cL a0 a1 a2 a3 a4 a5 a6 a7 a8 a9 a10 a11 a12 ev K co L1 r1 L2 r2 R vo FC FP FB fs cy sp de ca va) sz) ev K co L1 r1 L2 r2 R vo FC FP FB fs cy sp de ca va (f_V_bits K L1 L2 R part)) 0 0 (va_A (W_V cI cL a0 a1 a2 a3 a4 a5 a6 a7 a8 a9 a10 a11 a12 ev K co L1 r1 L2 r2 R vo FC FP FB fs cy sp de ca va) sz) := by
  refine mk_met (Qf := fun A => q_V_bits D cI cL a0 a1 a2 a3 a4 a5 a6 a7 a8 a9 a10 a11 a12 A ev K co L1 r1 L2 r2 R vo FC FP FB fs cy sp de ca va (f_V_bits K L1 L2 R part)) (by decide) (Nat.le_of_ble_eq_true rfl) ?_
  intro p e s m below meth c A ls hx hb hr hlocks hml hown hg hK hN hT hA hP hD hS hnm hl
  refine lv_iload_n hx hb d_V_bits_0 rfl (lv_at hl 1 rfl) ?_
  refine lv_if_lt (tgt := 11) hx hb d_V_bits_1 (by decide) (fun h1 => ?_) (fun h1 => ?_)
  · refine lv_ldc2 hx hb hown (hg _ m_264) d_V_bits_11 ?_
    rw [f_V_bits_e0 K L1 L2 R part h1]
    exact W.lret hx hb hr (fun t ht hW => ⟨⟨_, (), rfl, rfl, by show va_P D classes _ t.heap; rw [ht]; exact hP⟩, hS.F ht⟩) hS.2.2 d_V_bits_14 hlocks
  · refine lv_iload_n hx hb d_V_bits_4 rfl (lv_at hl 1 rfl) ?_
    refine lv_sipush (v := 168) hx hb d_V_bits_5 (by decide) ?_
    refine lv_icmp_lt (tgt := 15) hx hb d_V_bits_8 (by decide) (fun h8 => ?_) (fun h8 => ?_)
    · refine lv_iload_n hx hb d_V_bits_15 rfl (lv_at hl 1 rfl) ?_
      refine lv_bipush (v := 64) hx hb d_V_bits_16 (by decide) ?_
      refine lv_icmp_ge (tgt := 31) hx hb d_V_bits_18 (by decide) (fun h18 => ?_) (fun h18 => ?_)
      · refine lv_iload_n hx hb d_V_bits_31 rfl (lv_at hl 1 rfl) ?_
        refine lv_sipush (v := 160) hx hb d_V_bits_32 (by decide) ?_
        refine lv_icmp_ge (tgt := 56) hx hb d_V_bits_35 (by decide) (fun h35 => ?_) (fun h35 => ?_)
        · refine lv_iload_n hx hb d_V_bits_56 rfl (lv_at hl 1 rfl) ?_
          refine lv_sipush (v := 164) hx hb d_V_bits_57 (by decide) ?_
          refine lv_icmp_ge (tgt := 77) hx hb d_V_bits_60 (by decide) (fun h60 => ?_) (fun h60 => ?_)
          · refine lv_aload_n hx hb d_V_bits_77 rfl (lv_at hl 0 rfl) ?_
            refine va_get (ci := 0) (C := R_V) (T := F_V) (N := 11) hx hb hg in_V hown hK hP 0 rfl rfl 3 (by decide) (hg _ m_163) (fun _ h => h) rfl d_V_bits_78 ?_
            refine va_getN (ci := 2) (C := R_Ca) (T := F_Ca) (N := 2) hx hb hg in_Ca hown hK hP 5 rfl rfl 0 (by decide) (hN.use m_107) (fun _ h => h) rfl d_V_bits_81 ?_
            refine lv_iload_n hx hb d_V_bits_84 rfl (lv_at hl 1 rfl) ?_
            refine lv_sipush (v := 164) hx hb d_V_bits_85 (by decide) ?_
            refine lv_isub hx hb d_V_bits_88 ?_
            refine va_lald hx hb hK hP 6 1 rfl rfl (iv_d (vp_cmp' rfl h1 h8) h60) d_V_bits_89 ?_
            rw [f_V_bits_e1 K L1 L2 R part h1 h8 h18 h35 h60]
            exact W.lret hx hb hr (fun t ht hW => ⟨⟨_, (), rfl, rfl, by show va_P D classes _ t.heap; rw [ht]; exact hP⟩, hS.F ht⟩) hS.2.2 d_V_bits_90 hlocks
          · refine lv_aload_n hx hb d_V_bits_63 rfl (lv_at hl 0 rfl) ?_
            refine va_get (ci := 0) (C := R_V) (T := F_V) (N := 11) hx hb hg in_V hown hK hP 0 rfl rfl 2 (by decide) (hg _ m_162) (fun _ h => h) rfl d_V_bits_64 ?_
            refine va_getN (ci := 2) (C := R_Ca) (T := F_Ca) (N := 2) hx hb hg in_Ca hown hK hP 3 rfl rfl 0 (by decide) (hN.use m_107) (fun _ h => h) rfl d_V_bits_67 ?_
            refine lv_iload_n hx hb d_V_bits_70 rfl (lv_at hl 1 rfl) ?_
            refine lv_sipush (v := 160) hx hb d_V_bits_71 (by decide) ?_
            refine lv_isub hx hb d_V_bits_74 ?_
            refine va_lald hx hb hK hP 4 1 rfl rfl (iv_c h35 h60) d_V_bits_75 ?_
            rw [f_V_bits_e2 K L1 L2 R part h1 h8 h18 h35 h60]
            exact W.lret hx hb hr (fun t ht hW => ⟨⟨_, (), rfl, rfl, by show va_P D classes _ t.heap; rw [ht]; exact hP⟩, hS.F ht⟩) hS.2.2 d_V_bits_76 hlocks
        · refine lv_aload_n hx hb d_V_bits_38 rfl (lv_at hl 0 rfl) ?_
          refine va_get (ci := 0) (C := R_V) (T := F_V) (N := 11) hx hb hg in_V hown hK hP 0 rfl rfl 4 (by decide) (hg _ m_164) (fun _ h => h) rfl d_V_bits_39 ?_
          refine va_getN (ci := 3) (C := R_Re) (T := F_Re) (N := 2) hx hb hg in_Re hown hK hP 7 rfl rfl 0 (by decide) (hN.use m_122) (fun _ h => h) rfl d_V_bits_42 ?_
          refine lv_iload_n hx hb d_V_bits_45 rfl (lv_at hl 1 rfl) ?_
          refine lv_bipush (v := 64) hx hb d_V_bits_46 (by decide) ?_
          refine lv_isub hx hb d_V_bits_48 ?_
          refine va_iald hx hb hK hP 8 0 rfl rfl (iv_b h18 h35) d_V_bits_49 ?_
          refine lv_i2l hx hb d_V_bits_50 rfl ?_
          refine lv_ldc2 hx hb hown (hg _ m_269) d_V_bits_51 ?_
          refine lv_land hx hb d_V_bits_54 ?_
          rw [f_V_bits_e3 K L1 L2 R part h1 h8 h18 h35]
          exact W.lret hx hb hr (fun t ht hW => ⟨⟨_, (), rfl, rfl, by show va_P D classes _ t.heap; rw [ht]; exact hP⟩, hS.F ht⟩) hS.2.2 d_V_bits_55 hlocks
      · refine lv_aload_n hx hb d_V_bits_21 rfl (lv_at hl 0 rfl) ?_
        refine va_get (ci := 0) (C := R_V) (T := F_V) (N := 11) hx hb hg in_V hown hK hP 0 rfl rfl 1 (by decide) (hg _ m_161) (fun _ h => h) rfl d_V_bits_22 ?_
        refine va_getN (ci := 1) (C := R_Me) (T := F_Me) (N := 2) hx hb hg in_Me hown hK hP 1 rfl rfl 0 (by decide) (hN.use m_91) (fun _ h => h) rfl d_V_bits_25 ?_
        refine lv_iload_n hx hb d_V_bits_28 rfl (lv_at hl 1 rfl) ?_
        refine va_lald hx hb hK hP 2 1 rfl rfl (iv_a (vp_cmp' rfl h1 h8) h18) d_V_bits_29 ?_
        rw [f_V_bits_e4 K L1 L2 R part h1 h8 h18]
        exact W.lret hx hb hr (fun t ht hW => ⟨⟨_, (), rfl, rfl, by show va_P D classes _ t.heap; rw [ht]; exact hP⟩, hS.F ht⟩) hS.2.2 d_V_bits_30 hlocks
    · refine lv_ldc2 hx hb hown (hg _ m_264) d_V_bits_11 ?_
      rw [f_V_bits_e5 K L1 L2 R part h1 h8]
      exact W.lret hx hb hr (fun t ht hW => ⟨⟨_, (), rfl, rfl, by show va_P D classes _ t.heap; rw [ht]; exact hP⟩, hS.F ht⟩) hS.2.2 d_V_bits_14 hlocks
abbrev q_V_flip (D : va_G) (cI cL : ClassId) (a0 a1 a2 a3 a4 a5 a6 a7 a8 a9 a10 a11 a12 : Nat) (A : Nat → Prop) (ev : Int32) (K : Nat → Int64) (co : Int32) (L1 : Nat → Int64) (r1 : Int32) (L2 : Nat → Int64) (r2 : Int32) (R : Nat → Int32) (vo : Int32) (FC : Nat → Int32) (FP : Nat → Int32) (FB : Nat → Int32) (fs : Int32) (cy : Int32) (sp : Int32) (de : Int32) (ca : Int32) (va : Int32) (F : Int32 × (Nat → Int64) × (Nat → Int64) × (Nat → Int64) × (Nat → Int32)) : Array Value → State → Outcome → State → Prop := va_Qi (fun r (_ : Unit) => r = F.1) (fun _ t => va_P D classes (W_V cI cL a0 a1 a2 a3 a4 a5 a6 a7 a8 a9 a10 a11 a12 ev F.2.1 co F.2.2.1 r1 F.2.2.2.1 r2 F.2.2.2.2 vo FC FP FB fs cy sp de ca va) t.heap) A
theorem f_V_flip_e0 (K : Nat → Int64) (L1 : Nat → Int64) (L2 : Nat → Int64) (R : Nat → Int32) (part : Int32) (bit : Int32) (t1 : (Nat → Int64) × (Nat → Int64) × (Nat → Int64) × (Nat → Int32)) (e_t1 : f_V_invert K L1 L2 R part bit = t1) (h5 : ¬ (f_V_isBit part bit) = 0) : f_V_flip K L1 L2 R part bit = ((1 : Int32), t1.1, t1.2.1, t1.2.2.1, t1.2.2.2) := by
  subst e_t1
  exact (if_neg h5)
theorem f_V_flip_e1 (K : Nat → Int64) (L1 : Nat → Int64) (L2 : Nat → Int64) (R : Nat → Int32) (part : Int32) (bit : Int32)  (h5 : (f_V_isBit part bit) = 0) : f_V_flip K L1 L2 R part bit = ((0 : Int32), K, L1, L2, R) := by
  exact (if_pos h5)
set_option maxHeartbeats 4000000 in
set_option maxRecDepth 100000 in
theorem c_V_flip (l : Launch) (D : va_G) (cI cL : ClassId) (a0 a1 a2 a3 a4 a5 a6 a7 a8 a9 a10 a11 a12 : Nat) (sz : Nat) (ev : Int32) (K : Nat → Int64) (co : Int32) (L1 : Nat → Int64) (r1 : Int32) (L2 : Nat → Int64) (r2 : Int32) (R : Nat → Int32) (vo : Int32) (FC : Nat → Int32) (FP : Nat → Int32) (FB : Nat → Int32) (fs : Int32) (cy : Int32) (sp : Int32) (de : Int32) (ca : Int32) (va : Int32) (part : Int32) (bit : Int32)  : Met l y_V_flip w_V_flip ({ frames := 1, cells := 0, slots := 0, locals := 22 }) (va_Pc [.ref a0, .int part, .int bit] (PW D cI cL (W_V cI cL a0 a1 a2 a3 a4 a5 a6 a7 a8 a9 a10 a11 a12 ev K co L1 r1 L2 r2 R vo FC FP FB fs cy sp de ca va) sz)) (q_V_flip D cI cL a0 a1 a2 a3 a4 a5 a6 a7 a8 a9 a10 a11 a12 (va_A (W_V cI cL a0 a1 a2 a3 a4 a5 a6 a7 a8 a9 a10 a11 a12 ev K co L1 r1 L2 r2 R vo FC FP FB fs cy sp de ca va) sz) ev K co L1 r1 L2 r2 R vo FC FP FB fs cy sp de ca va (f_V_flip K L1 L2 R part bit)) 0 0 (va_A (W_V cI cL a0 a1 a2 a3 a4 a5 a6 a7 a8 a9 a10 a11 a12 ev K co L1 r1 L2 r2 R vo FC FP FB fs cy sp de ca va) sz) := by
  refine mk_met (Qf := fun A => q_V_flip D cI cL a0 a1 a2 a3 a4 a5 a6 a7 a8 a9 a10 a11 a12 A ev K co L1 r1 L2 r2 R vo FC FP FB fs cy sp de ca va (f_V_flip K L1 L2 R part bit)) (by decide) (Nat.le_of_ble_eq_true rfl) ?_
  intro p e s m below meth c A ls hx hb hr hlocks hml hown hg hK hN hT hA hP hD hS hnm hl
  refine lv_iload_n hx hb d_V_flip_0 rfl (lv_at hl 1 rfl) ?_
  refine lv_iload_n hx hb d_V_flip_1 rfl (lv_at hl 2 rfl) ?_
  refine cj_i (wc := []) (w1 := []) hP hD hS hA [] rfl [] rfl rfl (va_runS (rest := []) ⟨hx, hb, hml, hown, hg⟩ (c_V_isBit l D cI cL  _ part bit) ⟨callB_of 2 hg (gw_good m_276) rfl rfl rfl (hg _ m_65) (hg _ m_274) hd_V_isBit ⟨Nat.le_of_ble_eq_true rfl, Nat.le_of_ble_eq_true rfl⟩, hg _ m_275⟩ (pw_S hK hN hT hA hP hD hS [] rfl (by decide)) rfl rfl hl.1 rfl (lv_room (Nat.le_of_ble_eq_true rfl)) d_V_flip_2 ⟨Nat.le_of_ble_eq_true rfl, Nat.le_of_ble_eq_true rfl⟩) (fun H locs hP hD hS => ?_)
  have hP : va_P D classes (W_V cI cL a0 a1 a2 a3 a4 a5 a6 a7 a8 a9 a10 a11 a12 ev K co L1 r1 L2 r2 R vo FC FP FB fs cy sp de ca va) H := hP
  have hD : va_D A (W_V cI cL a0 a1 a2 a3 a4 a5 a6 a7 a8 a9 a10 a11 a12 ev K co L1 r1 L2 r2 R vo FC FP FB fs cy sp de ca va) := hD
  refine lv_if_ne (tgt := 10) hx hb d_V_flip_5 (by decide) (fun h5 => ?_) (fun h5 => ?_)
  · refine lv_aload_n hx hb d_V_flip_10 rfl (lv_at hl 0 rfl) ?_
    refine lv_iload_n hx hb d_V_flip_11 rfl (lv_at hl 1 rfl) ?_
    refine lv_iload_n hx hb d_V_flip_12 rfl (lv_at hl 2 rfl) ?_
    refine cj_v (wc := (W_V cI cL a0 a1 a2 a3 a4 a5 a6 a7 a8 a9 a10 a11 a12 ev K co L1 r1 L2 r2 R vo FC FP FB fs cy sp de ca va)) (w1 := (W_V cI cL a0 a1 a2 a3 a4 a5 a6 a7 a8 a9 a10 a11 a12 ev ((f_V_invert K L1 L2 R part bit).1) co ((f_V_invert K L1 L2 R part bit).2.1) r1 ((f_V_invert K L1 L2 R part bit).2.2.1) r2 ((f_V_invert K L1 L2 R part bit).2.2.2) vo FC FP FB fs cy sp de ca va)) hP hD hS hA [0, 1, 2, 3, 4, 5, 6, 7, 8, 9, 10, 11, 12] rfl [a0, a1, a2, a3, a4, a5, a6, a7, a8, a9, a10, a11, a12] rfl rfl (va_runV (rest := []) ⟨hx, hb, hml, hown, hg⟩ (c_V_invert l D cI cL a0 a1 a2 a3 a4 a5 a6 a7 a8 a9 a10 a11 a12 _ ev K co L1 r1 L2 r2 R vo FC FP FB fs cy sp de ca va part bit (in_bit h5)) ⟨callB_of 2 hg (gw_good m_280) rfl rfl rfl (hg _ m_65) (hg _ m_277) hd_V_invert ⟨Nat.le_of_ble_eq_true rfl, Nat.le_of_ble_eq_true rfl⟩, hg _ m_279, hg _ m_5⟩ (pw_V hK hN hT hA hP hD hS [0, 1, 2, 3, 4, 5, 6, 7, 8, 9, 10, 11, 12] rfl (by decide) (q0 := 0) (ci := 0) rfl rfl) rfl rfl hl.1 rfl (lv_room (Nat.le_of_ble_eq_true rfl)) d_V_flip_13 ⟨Nat.le_of_ble_eq_true rfl, Nat.le_of_ble_eq_true rfl⟩) (fun H locs hP hD hS => ?_)
    have hP : va_P D classes (W_V cI cL a0 a1 a2 a3 a4 a5 a6 a7 a8 a9 a10 a11 a12 ev ((f_V_invert K L1 L2 R part bit).1) co ((f_V_invert K L1 L2 R part bit).2.1) r1 ((f_V_invert K L1 L2 R part bit).2.2.1) r2 ((f_V_invert K L1 L2 R part bit).2.2.2) vo FC FP FB fs cy sp de ca va) H := hP
    have hD : va_D A (W_V cI cL a0 a1 a2 a3 a4 a5 a6 a7 a8 a9 a10 a11 a12 ev ((f_V_invert K L1 L2 R part bit).1) co ((f_V_invert K L1 L2 R part bit).2.1) r1 ((f_V_invert K L1 L2 R part bit).2.2.1) r2 ((f_V_invert K L1 L2 R part bit).2.2.2) vo FC FP FB fs cy sp de ca va) := hD
    generalize e_t1 : f_V_invert K L1 L2 R part bit = t1 at hP hD ⊢
    obtain ⟨t1_0, t1_1, t1_2, t1_3⟩ := t1
    have hP : va_P D classes (W_V cI cL a0 a1 a2 a3 a4 a5 a6 a7 a8 a9 a10 a11 a12 ev t1_0 co t1_1 r1 t1_2 r2 t1_3 vo FC FP FB fs cy sp de ca va) H := hP
    have hD : va_D A (W_V cI cL a0 a1 a2 a3 a4 a5 a6 a7 a8 a9 a10 a11 a12 ev t1_0 co t1_1 r1 t1_2 r2 t1_3 vo FC FP FB fs cy sp de ca va) := hD
    refine lv_iconst (v := 1) hx hb d_V_flip_16 (by decide) ?_
    rw [f_V_flip_e0 K L1 L2 R part bit (t1_0, t1_1, t1_2, t1_3) e_t1 h5]
    exact W.zret hx hb hr rfl (fun t ht hW => ⟨⟨_, (), rfl, rfl, by show va_P D classes _ t.heap; rw [ht]; exact hP⟩, hS.F ht⟩) hS.2.2 d_V_flip_17 hlocks
  · refine lv_iconst (v := 0) hx hb d_V_flip_8 (by decide) ?_
    rw [f_V_flip_e1 K L1 L2 R part bit h5]
    exact W.zret hx hb hr rfl (fun t ht hW => ⟨⟨_, (), rfl, rfl, by show va_P D classes _ t.heap; rw [ht]; exact hP⟩, hS.F ht⟩) hS.2.2 d_V_flip_9 hlocks
abbrev q_V_plan (D : va_G) (cI cL : ClassId) (a0 a1 a2 a3 a4 a5 a6 a7 a8 a9 a10 a11 a12 : Nat) (A : Nat → Prop) (ev : Int32) (K : Nat → Int64) (co : Int32) (L1 : Nat → Int64) (r1 : Int32) (L2 : Nat → Int64) (r2 : Int32) (R : Nat → Int32) (vo : Int32) (FC : Nat → Int32) (FP : Nat → Int32) (FB : Nat → Int32) (fs : Int32) (cy : Int32) (sp : Int32) (de : Int32) (ca : Int32) (va : Int32) (F : Int32 × (Nat → Int32) × (Nat → Int32) × (Nat → Int32) × Int32) : Array Value → State → Outcome → State → Prop := va_Qi (fun r (_ : Unit) => r = F.1) (fun _ t => va_P D classes (W_V cI cL a0 a1 a2 a3 a4 a5 a6 a7 a8 a9 a10 a11 a12 ev K co L1 r1 L2 r2 R vo F.2.1 F.2.2.1 F.2.2.2.1 F.2.2.2.2 cy sp de ca va) t.heap) A
theorem f_V_plan_e0 (FC : Nat → Int32) (FP : Nat → Int32) (FB : Nat → Int32) (fs : Int32) (cy : Int32) (n_ : Int32) (part : Int32) (bit : Int32)  (h2 : n_ < (1 : Int32)) : f_V_plan FC FP FB fs cy n_ part bit = ((0 : Int32), FC, FP, FB, fs) := by
  exact (if_pos h2)
theorem f_V_plan_e1 (FC : Nat → Int32) (FP : Nat → Int32) (FB : Nat → Int32) (fs : Int32) (cy : Int32) (n_ : Int32) (part : Int32) (bit : Int32)  (h2 : ¬ n_ < (1 : Int32)) (h9 : (1000 : Int32) < n_) : f_V_plan FC FP FB fs cy n_ part bit = ((0 : Int32), FC, FP, FB, fs) := by
  exact ((if_neg h2).trans (if_pos h9))
theorem f_V_plan_e2 (FC : Nat → Int32) (FP : Nat → Int32) (FB : Nat → Int32) (fs : Int32) (cy : Int32) (n_ : Int32) (part : Int32) (bit : Int32)  (h2 : ¬ n_ < (1 : Int32)) (h9 : ¬ (1000 : Int32) < n_) (h17 : (f_V_isBit part bit) = 0) : f_V_plan FC FP FB fs cy n_ part bit = ((0 : Int32), FC, FP, FB, fs) := by
  exact ((if_neg h2).trans ((if_neg h9).trans (if_pos h17)))
theorem f_V_plan_e3 (FC : Nat → Int32) (FP : Nat → Int32) (FB : Nat → Int32) (fs : Int32) (cy : Int32) (n_ : Int32) (part : Int32) (bit : Int32) (t1 : (Nat → Int32) × (Nat → Int32) × (Nat → Int32) × Int32) (e_t1 : f_Fa_append FC FP FB fs (cy + n_) part bit = t1) (h2 : ¬ n_ < (1 : Int32)) (h9 : ¬ (1000 : Int32) < n_) (h17 : ¬ (f_V_isBit part bit) = 0) (h29 : ¬ fs = (16 : Int32)) : f_V_plan FC FP FB fs cy n_ part bit = ((1 : Int32), t1.1, t1.2.1, t1.2.2.1, t1.2.2.2) := by
  subst e_t1
  exact ((if_neg h2).trans ((if_neg h9).trans ((if_neg h17).trans (if_neg h29))))
theorem f_V_plan_e4 (FC : Nat → Int32) (FP : Nat → Int32) (FB : Nat → Int32) (fs : Int32) (cy : Int32) (n_ : Int32) (part : Int32) (bit : Int32)  (h2 : ¬ n_ < (1 : Int32)) (h9 : ¬ (1000 : Int32) < n_) (h17 : ¬ (f_V_isBit part bit) = 0) (h29 : fs = (16 : Int32)) : f_V_plan FC FP FB fs cy n_ part bit = ((0 : Int32), FC, FP, FB, fs) := by
  exact ((if_neg h2).trans ((if_neg h9).trans ((if_neg h17).trans (if_pos h29))))
set_option maxHeartbeats 4000000 in
set_option maxRecDepth 100000 in
theorem c_V_plan (l : Launch) (D : va_G) (cI cL : ClassId) (a0 a1 a2 a3 a4 a5 a6 a7 a8 a9 a10 a11 a12 : Nat) (sz : Nat) (ev : Int32) (K : Nat → Int64) (co : Int32) (L1 : Nat → Int64) (r1 : Int32) (L2 : Nat → Int64) (r2 : Int32) (R : Nat → Int32) (vo : Int32) (FC : Nat → Int32) (FP : Nat → Int32) (FB : Nat → Int32) (fs : Int32) (cy : Int32) (sp : Int32) (de : Int32) (ca : Int32) (va : Int32) (n_ : Int32) (part : Int32) (bit : Int32) (h_fs : vp_in fs 17) : Met l y_V_plan w_V_plan ({ frames := 1, cells := 0, slots := 0, locals := 23 }) (va_Pc [.ref a0, .int n_, .int part, .int bit] (PW D cI cL (W_V cI cL a0 a1 a2 a3 a4 a5 a6 a7 a8 a9 a10 a11 a12 ev K co L1 r1 L2 r2 R vo FC FP FB fs cy sp de ca va) sz)) (q_V_plan D cI cL a0 a1 a2 a3 a4 a5 a6 a7 a8 a9 a10 a11 a12 (va_A (W_V cI cL a0 a1 a2 a3 a4 a5 a6 a7 a8 a9 a10 a11 a12 ev K co L1 r1 L2 r2 R vo FC FP FB fs cy sp de ca va) sz) ev K co L1 r1 L2 r2 R vo FC FP FB fs cy sp de ca va (f_V_plan FC FP FB fs cy n_ part bit)) 0 0 (va_A (W_V cI cL a0 a1 a2 a3 a4 a5 a6 a7 a8 a9 a10 a11 a12 ev K co L1 r1 L2 r2 R vo FC FP FB fs cy sp de ca va) sz) := by
  refine mk_met (Qf := fun A => q_V_plan D cI cL a0 a1 a2 a3 a4 a5 a6 a7 a8 a9 a10 a11 a12 A ev K co L1 r1 L2 r2 R vo FC FP FB fs cy sp de ca va (f_V_plan FC FP FB fs cy n_ part bit)) (by decide) (Nat.le_of_ble_eq_true rfl) ?_
  intro p e s m below meth c A ls hx hb hr hlocks hml hown hg hK hN hT hA hP hD hS hnm hl
  refine lv_iload_n hx hb d_V_plan_0 rfl (lv_at hl 1 rfl) ?_
  refine lv_iconst (v := 1) hx hb d_V_plan_1 (by decide) ?_
  refine lv_icmp_lt (tgt := 32) hx hb d_V_plan_2 (by decide) (fun h2 => ?_) (fun h2 => ?_)
  · refine lv_iconst (v := 0) hx hb d_V_plan_32 (by decide) ?_
    rw [f_V_plan_e0 FC FP FB fs cy n_ part bit h2]
    exact W.zret hx hb hr rfl (fun t ht hW => ⟨⟨_, (), rfl, rfl, by show va_P D classes _ t.heap; rw [ht]; exact hP⟩, hS.F ht⟩) hS.2.2 d_V_plan_33 hlocks
  · refine lv_iload_n hx hb d_V_plan_5 rfl (lv_at hl 1 rfl) ?_
    refine lv_sipush (v := 1000) hx hb d_V_plan_6 (by decide) ?_
    refine lv_icmp_gt (tgt := 32) hx hb d_V_plan_9 (by decide) (fun h9 => ?_) (fun h9 => ?_)
    · refine lv_iconst (v := 0) hx hb d_V_plan_32 (by decide) ?_
      rw [f_V_plan_e1 FC FP FB fs cy n_ part bit h2 h9]
      exact W.zret hx hb hr rfl (fun t ht hW => ⟨⟨_, (), rfl, rfl, by show va_P D classes _ t.heap; rw [ht]; exact hP⟩, hS.F ht⟩) hS.2.2 d_V_plan_33 hlocks
    · refine lv_iload_n hx hb d_V_plan_12 rfl (lv_at hl 2 rfl) ?_
      refine lv_iload_n hx hb d_V_plan_13 rfl (lv_at hl 3 rfl) ?_
      refine cj_i (wc := []) (w1 := []) hP hD hS hA [] rfl [] rfl rfl (va_runS (rest := []) ⟨hx, hb, hml, hown, hg⟩ (c_V_isBit l D cI cL  _ part bit) ⟨callB_of 2 hg (gw_good m_276) rfl rfl rfl (hg _ m_65) (hg _ m_274) hd_V_isBit ⟨Nat.le_of_ble_eq_true rfl, Nat.le_of_ble_eq_true rfl⟩, hg _ m_275⟩ (pw_S hK hN hT hA hP hD hS [] rfl (by decide)) rfl rfl hl.1 rfl (lv_room (Nat.le_of_ble_eq_true rfl)) d_V_plan_14 ⟨Nat.le_of_ble_eq_true rfl, Nat.le_of_ble_eq_true rfl⟩) (fun H locs hP hD hS => ?_)
      have hP : va_P D classes (W_V cI cL a0 a1 a2 a3 a4 a5 a6 a7 a8 a9 a10 a11 a12 ev K co L1 r1 L2 r2 R vo FC FP FB fs cy sp de ca va) H := hP
      have hD : va_D A (W_V cI cL a0 a1 a2 a3 a4 a5 a6 a7 a8 a9 a10 a11 a12 ev K co L1 r1 L2 r2 R vo FC FP FB fs cy sp de ca va) := hD
      refine lv_if_eq (tgt := 32) hx hb d_V_plan_17 (by decide) (fun h17 => ?_) (fun h17 => ?_)
      · refine lv_iconst (v := 0) hx hb d_V_plan_32 (by decide) ?_
        rw [f_V_plan_e2 FC FP FB fs cy n_ part bit h2 h9 h17]
        exact W.zret hx hb hr rfl (fun t ht hW => ⟨⟨_, (), rfl, rfl, by show va_P D classes _ t.heap; rw [ht]; exact hP⟩, hS.F ht⟩) hS.2.2 d_V_plan_33 hlocks
      · refine lv_aload_n hx hb d_V_plan_20 rfl (lv_at hl 0 rfl) ?_
        refine va_get (ci := 0) (C := R_V) (T := F_V) (N := 11) hx hb hg in_V hown hK hP 0 rfl rfl 5 (by decide) (hg _ m_165) (fun _ h => h) rfl d_V_plan_21 ?_
        refine va_getN (ci := 4) (C := R_Fa) (T := F_Fa) (N := 4) hx hb hg in_Fa hown hK hP 9 rfl rfl 3 (by decide) (hN.use m_144) (fun _ h => h) rfl d_V_plan_24 ?_
        refine lv_bipush (v := 16) hx hb d_V_plan_27 (by decide) ?_
        refine lv_icmp_ne (tgt := 34) hx hb d_V_plan_29 (by decide) (fun h29 => ?_) (fun h29 => ?_)
        · refine lv_aload_n hx hb d_V_plan_34 rfl (lv_at hl 0 rfl) ?_
          refine va_get (ci := 0) (C := R_V) (T := F_V) (N := 11) hx hb hg in_V hown hK hP 0 rfl rfl 5 (by decide) (hg _ m_165) (fun _ h => h) rfl d_V_plan_35 ?_
          refine lv_aload_n hx hb d_V_plan_38 rfl (lv_at hl 0 rfl) ?_
          refine va_get (ci := 0) (C := R_V) (T := F_V) (N := 11) hx hb hg in_V hown hK hP 0 rfl rfl 6 (by decide) (hg _ m_166) (fun _ h => h) rfl d_V_plan_39 ?_
          refine lv_iload_n hx hb d_V_plan_42 rfl (lv_at hl 1 rfl) ?_
          refine lv_iadd hx hb d_V_plan_43 ?_
          refine lv_iload_n hx hb d_V_plan_44 rfl (lv_at hl 2 rfl) ?_
          refine lv_iload_n hx hb d_V_plan_45 rfl (lv_at hl 3 rfl) ?_
          refine cj_v (wc := (W_Fa cI cL a9 a10 a11 a12 FC FP FB fs)) (w1 := (W_Fa cI cL a9 a10 a11 a12 ((f_Fa_append FC FP FB fs (cy + n_) part bit).1) ((f_Fa_append FC FP FB fs (cy + n_) part bit).2.1) ((f_Fa_append FC FP FB fs (cy + n_) part bit).2.2.1) ((f_Fa_append FC FP FB fs (cy + n_) part bit).2.2.2))) hP hD hS hA [9, 10, 11, 12] rfl [a9, a10, a11, a12] rfl rfl (va_runVN (rest := []) ⟨hx, hb, hml, hown, hg⟩ (c_Fa_append l D cI cL a9 a10 a11 a12 _ FC FP FB fs (cy + n_) part bit (in_fs h_fs h29)) ⟨va_cnB 3 hg (gw_good m_288) rfl rfl rfl (hN _ m_285) (hg _ m_69) hd_Fa_append ⟨Nat.le_of_ble_eq_true rfl, Nat.le_of_ble_eq_true rfl⟩, hg _ m_287, hg _ m_6⟩ (pw_V hK hN hT hA hP hD hS [9, 10, 11, 12] rfl (by decide) (q0 := 9) (ci := 4) rfl rfl) rfl rfl hl.1 rfl (lv_room (Nat.le_of_ble_eq_true rfl)) d_V_plan_46 ⟨Nat.le_of_ble_eq_true rfl, Nat.le_of_ble_eq_true rfl⟩) (fun H locs hP hD hS => ?_)
          have hP : va_P D classes (W_V cI cL a0 a1 a2 a3 a4 a5 a6 a7 a8 a9 a10 a11 a12 ev K co L1 r1 L2 r2 R vo ((f_Fa_append FC FP FB fs (cy + n_) part bit).1) ((f_Fa_append FC FP FB fs (cy + n_) part bit).2.1) ((f_Fa_append FC FP FB fs (cy + n_) part bit).2.2.1) ((f_Fa_append FC FP FB fs (cy + n_) part bit).2.2.2) cy sp de ca va) H := hP
          have hD : va_D A (W_V cI cL a0 a1 a2 a3 a4 a5 a6 a7 a8 a9 a10 a11 a12 ev K co L1 r1 L2 r2 R vo ((f_Fa_append FC FP FB fs (cy + n_) part bit).1) ((f_Fa_append FC FP FB fs (cy + n_) part bit).2.1) ((f_Fa_append FC FP FB fs (cy + n_) part bit).2.2.1) ((f_Fa_append FC FP FB fs (cy + n_) part bit).2.2.2) cy sp de ca va) := hD
          generalize e_t1 : f_Fa_append FC FP FB fs (cy + n_) part bit = t1 at hP hD ⊢
          obtain ⟨t1_0, t1_1, t1_2, t1_3⟩ := t1
          have hP : va_P D classes (W_V cI cL a0 a1 a2 a3 a4 a5 a6 a7 a8 a9 a10 a11 a12 ev K co L1 r1 L2 r2 R vo t1_0 t1_1 t1_2 t1_3 cy sp de ca va) H := hP
          have hD : va_D A (W_V cI cL a0 a1 a2 a3 a4 a5 a6 a7 a8 a9 a10 a11 a12 ev K co L1 r1 L2 r2 R vo t1_0 t1_1 t1_2 t1_3 cy sp de ca va) := hD
          refine lv_iconst (v := 1) hx hb d_V_plan_49 (by decide) ?_
          rw [f_V_plan_e3 FC FP FB fs cy n_ part bit (t1_0, t1_1, t1_2, t1_3) e_t1 h2 h9 h17 h29]
          exact W.zret hx hb hr rfl (fun t ht hW => ⟨⟨_, (), rfl, rfl, by show va_P D classes _ t.heap; rw [ht]; exact hP⟩, hS.F ht⟩) hS.2.2 d_V_plan_50 hlocks
        · refine lv_iconst (v := 0) hx hb d_V_plan_32 (by decide) ?_
          rw [f_V_plan_e4 FC FP FB fs cy n_ part bit h2 h9 h17 h29]
          exact W.zret hx hb hr rfl (fun t ht hW => ⟨⟨_, (), rfl, rfl, by show va_P D classes _ t.heap; rw [ht]; exact hP⟩, hS.F ht⟩) hS.2.2 d_V_plan_33 hlocks
abbrev q_V_planned (D : va_G) (cI cL : ClassId) (a0 a1 a2 a3 a4 a5 a6 a7 a8 a9 a10 a11 a12 : Nat) (A : Nat → Prop) (ev : Int32) (K : Nat → Int64) (co : Int32) (L1 : Nat → Int64) (r1 : Int32) (L2 : Nat → Int64) (r2 : Int32) (R : Nat → Int32) (vo : Int32) (FC : Nat → Int32) (FP : Nat → Int32) (FB : Nat → Int32) (fs : Int32) (cy : Int32) (sp : Int32) (de : Int32) (ca : Int32) (va : Int32) (F : Int32) : Array Value → State → Outcome → State → Prop := va_Qi (fun r (_ : Unit) => r = F) (fun _ t => va_P D classes (W_V cI cL a0 a1 a2 a3 a4 a5 a6 a7 a8 a9 a10 a11 a12 ev K co L1 r1 L2 r2 R vo FC FP FB fs cy sp de ca va) t.heap) A
set_option maxHeartbeats 4000000 in
set_option maxRecDepth 100000 in
theorem c_V_planned (l : Launch) (D : va_G) (cI cL : ClassId) (a0 a1 a2 a3 a4 a5 a6 a7 a8 a9 a10 a11 a12 : Nat) (sz : Nat) (ev : Int32) (K : Nat → Int64) (co : Int32) (L1 : Nat → Int64) (r1 : Int32) (L2 : Nat → Int64) (r2 : Int32) (R : Nat → Int32) (vo : Int32) (FC : Nat → Int32) (FP : Nat → Int32) (FB : Nat → Int32) (fs : Int32) (cy : Int32) (sp : Int32) (de : Int32) (ca : Int32) (va : Int32)   : Met l y_V_planned w_V_planned ({ frames := 0, cells := 0, slots := 0, locals := 0 }) (va_Pc [.ref a0] (PW D cI cL (W_V cI cL a0 a1 a2 a3 a4 a5 a6 a7 a8 a9 a10 a11 a12 ev K co L1 r1 L2 r2 R vo FC FP FB fs cy sp de ca va) sz)) (q_V_planned D cI cL a0 a1 a2 a3 a4 a5 a6 a7 a8 a9 a10 a11 a12 (va_A (W_V cI cL a0 a1 a2 a3 a4 a5 a6 a7 a8 a9 a10 a11 a12 ev K co L1 r1 L2 r2 R vo FC FP FB fs cy sp de ca va) sz) ev K co L1 r1 L2 r2 R vo FC FP FB fs cy sp de ca va (f_V_planned fs)) 0 0 (va_A (W_V cI cL a0 a1 a2 a3 a4 a5 a6 a7 a8 a9 a10 a11 a12 ev K co L1 r1 L2 r2 R vo FC FP FB fs cy sp de ca va) sz) := by
  refine mk_met (Qf := fun A => q_V_planned D cI cL a0 a1 a2 a3 a4 a5 a6 a7 a8 a9 a10 a11 a12 A ev K co L1 r1 L2 r2 R vo FC FP FB fs cy sp de ca va (f_V_planned fs)) (by decide) (Nat.le_of_ble_eq_true rfl) ?_
  intro p e s m below meth c A ls hx hb hr hlocks hml hown hg hK hN hT hA hP hD hS hnm hl
  refine lv_aload_n hx hb d_V_planned_0 rfl (lv_at hl 0 rfl) ?_
  refine va_get (ci := 0) (C := R_V) (T := F_V) (N := 11) hx hb hg in_V hown hK hP 0 rfl rfl 5 (by decide) (hg _ m_165) (fun _ h => h) rfl d_V_planned_1 ?_
  refine va_getN (ci := 4) (C := R_Fa) (T := F_Fa) (N := 4) hx hb hg in_Fa hown hK hP 9 rfl rfl 3 (by decide) (hN.use m_144) (fun _ h => h) rfl d_V_planned_4 ?_
  exact W.iret hx hb hr (fun t ht hW => ⟨⟨_, (), rfl, rfl, by show va_P D classes _ t.heap; rw [ht]; exact hP⟩, hS.F ht⟩) hS.2.2 d_V_planned_7 hlocks
abbrev q_V_cause (D : va_G) (cI cL : ClassId) (a0 a1 a2 a3 a4 a5 a6 a7 a8 a9 a10 a11 a12 : Nat) (A : Nat → Prop) (ev : Int32) (K : Nat → Int64) (co : Int32) (L1 : Nat → Int64) (r1 : Int32) (L2 : Nat → Int64) (r2 : Int32) (R : Nat → Int32) (vo : Int32) (FC : Nat → Int32) (FP : Nat → Int32) (FB : Nat → Int32) (fs : Int32) (cy : Int32) (sp : Int32) (de : Int32) (ca : Int32) (va : Int32) (F : Int32) : Array Value → State → Outcome → State → Prop := va_Qi (fun r (_ : Unit) => r = F) (fun _ t => va_P D classes (W_V cI cL a0 a1 a2 a3 a4 a5 a6 a7 a8 a9 a10 a11 a12 ev K co L1 r1 L2 r2 R vo FC FP FB fs cy sp de ca va) t.heap) A
set_option maxHeartbeats 4000000 in
set_option maxRecDepth 100000 in
theorem c_V_cause (l : Launch) (D : va_G) (cI cL : ClassId) (a0 a1 a2 a3 a4 a5 a6 a7 a8 a9 a10 a11 a12 : Nat) (sz : Nat) (ev : Int32) (K : Nat → Int64) (co : Int32) (L1 : Nat → Int64) (r1 : Int32) (L2 : Nat → Int64) (r2 : Int32) (R : Nat → Int32) (vo : Int32) (FC : Nat → Int32) (FP : Nat → Int32) (FB : Nat → Int32) (fs : Int32) (cy : Int32) (sp : Int32) (de : Int32) (ca : Int32) (va : Int32)   : Met l y_V_cause w_V_cause ({ frames := 0, cells := 0, slots := 0, locals := 0 }) (va_Pc [.ref a0] (PW D cI cL (W_V cI cL a0 a1 a2 a3 a4 a5 a6 a7 a8 a9 a10 a11 a12 ev K co L1 r1 L2 r2 R vo FC FP FB fs cy sp de ca va) sz)) (q_V_cause D cI cL a0 a1 a2 a3 a4 a5 a6 a7 a8 a9 a10 a11 a12 (va_A (W_V cI cL a0 a1 a2 a3 a4 a5 a6 a7 a8 a9 a10 a11 a12 ev K co L1 r1 L2 r2 R vo FC FP FB fs cy sp de ca va) sz) ev K co L1 r1 L2 r2 R vo FC FP FB fs cy sp de ca va (f_V_cause ca)) 0 0 (va_A (W_V cI cL a0 a1 a2 a3 a4 a5 a6 a7 a8 a9 a10 a11 a12 ev K co L1 r1 L2 r2 R vo FC FP FB fs cy sp de ca va) sz) := by
  refine mk_met (Qf := fun A => q_V_cause D cI cL a0 a1 a2 a3 a4 a5 a6 a7 a8 a9 a10 a11 a12 A ev K co L1 r1 L2 r2 R vo FC FP FB fs cy sp de ca va (f_V_cause ca)) (by decide) (Nat.le_of_ble_eq_true rfl) ?_
  intro p e s m below meth c A ls hx hb hr hlocks hml hown hg hK hN hT hA hP hD hS hnm hl
  refine lv_aload_n hx hb d_V_cause_0 rfl (lv_at hl 0 rfl) ?_
  refine va_get (ci := 0) (C := R_V) (T := F_V) (N := 11) hx hb hg in_V hown hK hP 0 rfl rfl 9 (by decide) (hg _ m_169) (fun _ h => h) rfl d_V_cause_1 ?_
  exact W.iret hx hb hr (fun t ht hW => ⟨⟨_, (), rfl, rfl, by show va_P D classes _ t.heap; rw [ht]; exact hP⟩, hS.F ht⟩) hS.2.2 d_V_cause_4 hlocks
abbrev q_V_value (D : va_G) (cI cL : ClassId) (a0 a1 a2 a3 a4 a5 a6 a7 a8 a9 a10 a11 a12 : Nat) (A : Nat → Prop) (ev : Int32) (K : Nat → Int64) (co : Int32) (L1 : Nat → Int64) (r1 : Int32) (L2 : Nat → Int64) (r2 : Int32) (R : Nat → Int32) (vo : Int32) (FC : Nat → Int32) (FP : Nat → Int32) (FB : Nat → Int32) (fs : Int32) (cy : Int32) (sp : Int32) (de : Int32) (ca : Int32) (va : Int32) (F : Int32) : Array Value → State → Outcome → State → Prop := va_Qi (fun r (_ : Unit) => r = F) (fun _ t => va_P D classes (W_V cI cL a0 a1 a2 a3 a4 a5 a6 a7 a8 a9 a10 a11 a12 ev K co L1 r1 L2 r2 R vo FC FP FB fs cy sp de ca va) t.heap) A
set_option maxHeartbeats 4000000 in
set_option maxRecDepth 100000 in
theorem c_V_value (l : Launch) (D : va_G) (cI cL : ClassId) (a0 a1 a2 a3 a4 a5 a6 a7 a8 a9 a10 a11 a12 : Nat) (sz : Nat) (ev : Int32) (K : Nat → Int64) (co : Int32) (L1 : Nat → Int64) (r1 : Int32) (L2 : Nat → Int64) (r2 : Int32) (R : Nat → Int32) (vo : Int32) (FC : Nat → Int32) (FP : Nat → Int32) (FB : Nat → Int32) (fs : Int32) (cy : Int32) (sp : Int32) (de : Int32) (ca : Int32) (va : Int32)   : Met l y_V_value w_V_value ({ frames := 0, cells := 0, slots := 0, locals := 0 }) (va_Pc [.ref a0] (PW D cI cL (W_V cI cL a0 a1 a2 a3 a4 a5 a6 a7 a8 a9 a10 a11 a12 ev K co L1 r1 L2 r2 R vo FC FP FB fs cy sp de ca va) sz)) (q_V_value D cI cL a0 a1 a2 a3 a4 a5 a6 a7 a8 a9 a10 a11 a12 (va_A (W_V cI cL a0 a1 a2 a3 a4 a5 a6 a7 a8 a9 a10 a11 a12 ev K co L1 r1 L2 r2 R vo FC FP FB fs cy sp de ca va) sz) ev K co L1 r1 L2 r2 R vo FC FP FB fs cy sp de ca va (f_V_value va)) 0 0 (va_A (W_V cI cL a0 a1 a2 a3 a4 a5 a6 a7 a8 a9 a10 a11 a12 ev K co L1 r1 L2 r2 R vo FC FP FB fs cy sp de ca va) sz) := by
  refine mk_met (Qf := fun A => q_V_value D cI cL a0 a1 a2 a3 a4 a5 a6 a7 a8 a9 a10 a11 a12 A ev K co L1 r1 L2 r2 R vo FC FP FB fs cy sp de ca va (f_V_value va)) (by decide) (Nat.le_of_ble_eq_true rfl) ?_
  intro p e s m below meth c A ls hx hb hr hlocks hml hown hg hK hN hT hA hP hD hS hnm hl
  refine lv_aload_n hx hb d_V_value_0 rfl (lv_at hl 0 rfl) ?_
  refine va_get (ci := 0) (C := R_V) (T := F_V) (N := 11) hx hb hg in_V hown hK hP 0 rfl rfl 10 (by decide) (hg _ m_170) (fun _ h => h) rfl d_V_value_1 ?_
  exact W.iret hx hb hr (fun t ht hW => ⟨⟨_, (), rfl, rfl, by show va_P D classes _ t.heap; rw [ht]; exact hP⟩, hS.F ht⟩) hS.2.2 d_V_value_4 hlocks
abbrev q_V_cycles (D : va_G) (cI cL : ClassId) (a0 a1 a2 a3 a4 a5 a6 a7 a8 a9 a10 a11 a12 : Nat) (A : Nat → Prop) (ev : Int32) (K : Nat → Int64) (co : Int32) (L1 : Nat → Int64) (r1 : Int32) (L2 : Nat → Int64) (r2 : Int32) (R : Nat → Int32) (vo : Int32) (FC : Nat → Int32) (FP : Nat → Int32) (FB : Nat → Int32) (fs : Int32) (cy : Int32) (sp : Int32) (de : Int32) (ca : Int32) (va : Int32) (F : Int32) : Array Value → State → Outcome → State → Prop := va_Qi (fun r (_ : Unit) => r = F) (fun _ t => va_P D classes (W_V cI cL a0 a1 a2 a3 a4 a5 a6 a7 a8 a9 a10 a11 a12 ev K co L1 r1 L2 r2 R vo FC FP FB fs cy sp de ca va) t.heap) A
set_option maxHeartbeats 4000000 in
set_option maxRecDepth 100000 in
theorem c_V_cycles (l : Launch) (D : va_G) (cI cL : ClassId) (a0 a1 a2 a3 a4 a5 a6 a7 a8 a9 a10 a11 a12 : Nat) (sz : Nat) (ev : Int32) (K : Nat → Int64) (co : Int32) (L1 : Nat → Int64) (r1 : Int32) (L2 : Nat → Int64) (r2 : Int32) (R : Nat → Int32) (vo : Int32) (FC : Nat → Int32) (FP : Nat → Int32) (FB : Nat → Int32) (fs : Int32) (cy : Int32) (sp : Int32) (de : Int32) (ca : Int32) (va : Int32)   : Met l y_V_cycles w_V_cycles ({ frames := 0, cells := 0, slots := 0, locals := 0 }) (va_Pc [.ref a0] (PW D cI cL (W_V cI cL a0 a1 a2 a3 a4 a5 a6 a7 a8 a9 a10 a11 a12 ev K co L1 r1 L2 r2 R vo FC FP FB fs cy sp de ca va) sz)) (q_V_cycles D cI cL a0 a1 a2 a3 a4 a5 a6 a7 a8 a9 a10 a11 a12 (va_A (W_V cI cL a0 a1 a2 a3 a4 a5 a6 a7 a8 a9 a10 a11 a12 ev K co L1 r1 L2 r2 R vo FC FP FB fs cy sp de ca va) sz) ev K co L1 r1 L2 r2 R vo FC FP FB fs cy sp de ca va (f_V_cycles cy)) 0 0 (va_A (W_V cI cL a0 a1 a2 a3 a4 a5 a6 a7 a8 a9 a10 a11 a12 ev K co L1 r1 L2 r2 R vo FC FP FB fs cy sp de ca va) sz) := by
  refine mk_met (Qf := fun A => q_V_cycles D cI cL a0 a1 a2 a3 a4 a5 a6 a7 a8 a9 a10 a11 a12 A ev K co L1 r1 L2 r2 R vo FC FP FB fs cy sp de ca va (f_V_cycles cy)) (by decide) (Nat.le_of_ble_eq_true rfl) ?_
  intro p e s m below meth c A ls hx hb hr hlocks hml hown hg hK hN hT hA hP hD hS hnm hl
  refine lv_aload_n hx hb d_V_cycles_0 rfl (lv_at hl 0 rfl) ?_
  refine va_get (ci := 0) (C := R_V) (T := F_V) (N := 11) hx hb hg in_V hown hK hP 0 rfl rfl 6 (by decide) (hg _ m_166) (fun _ h => h) rfl d_V_cycles_1 ?_
  exact W.iret hx hb hr (fun t ht hW => ⟨⟨_, (), rfl, rfl, by show va_P D classes _ t.heap; rw [ht]; exact hP⟩, hS.F ht⟩) hS.2.2 d_V_cycles_4 hlocks
abbrev q_V_count (D : va_G) (cI cL : ClassId) (a0 a1 a2 a3 a4 a5 a6 a7 a8 a9 a10 a11 a12 : Nat) (A : Nat → Prop) (ev : Int32) (K : Nat → Int64) (co : Int32) (L1 : Nat → Int64) (r1 : Int32) (L2 : Nat → Int64) (r2 : Int32) (R : Nat → Int32) (vo : Int32) (FC : Nat → Int32) (FP : Nat → Int32) (FB : Nat → Int32) (fs : Int32) (cy : Int32) (sp : Int32) (de : Int32) (ca : Int32) (va : Int32) (F : Int32) : Array Value → State → Outcome → State → Prop := va_Qi (fun r (_ : Unit) => r = F) (fun _ t => va_P D classes (W_V cI cL a0 a1 a2 a3 a4 a5 a6 a7 a8 a9 a10 a11 a12 ev K co L1 r1 L2 r2 R vo FC FP FB fs cy sp de ca va) t.heap) A
theorem f_V_count_e0 (co : Int32) (r1 : Int32) (r2 : Int32) (vo : Int32) (sp : Int32) (de : Int32) (w : Int32)  (h1_0 : w = (0 : Int32)) : f_V_count co r1 r2 vo sp de w = (co) := by
  exact (if_pos h1_0)
theorem f_V_count_e1 (co : Int32) (r1 : Int32) (r2 : Int32) (vo : Int32) (sp : Int32) (de : Int32) (w : Int32)  (h1_0 : ¬ w = (0 : Int32)) (h1_1 : w = (1 : Int32)) : f_V_count co r1 r2 vo sp de w = (de) := by
  exact ((if_neg h1_0).trans (if_pos h1_1))
theorem f_V_count_e2 (co : Int32) (r1 : Int32) (r2 : Int32) (vo : Int32) (sp : Int32) (de : Int32) (w : Int32)  (h1_0 : ¬ w = (0 : Int32)) (h1_1 : ¬ w = (1 : Int32)) (h1_2 : w = (2 : Int32)) : f_V_count co r1 r2 vo sp de w = (vo) := by
  exact ((if_neg h1_0).trans ((if_neg h1_1).trans (if_pos h1_2)))
theorem f_V_count_e3 (co : Int32) (r1 : Int32) (r2 : Int32) (vo : Int32) (sp : Int32) (de : Int32) (w : Int32)  (h1_0 : ¬ w = (0 : Int32)) (h1_1 : ¬ w = (1 : Int32)) (h1_2 : ¬ w = (2 : Int32)) (h1_3 : w = (3 : Int32)) : f_V_count co r1 r2 vo sp de w = (r1) := by
  exact ((if_neg h1_0).trans ((if_neg h1_1).trans ((if_neg h1_2).trans (if_pos h1_3))))
theorem f_V_count_e4 (co : Int32) (r1 : Int32) (r2 : Int32) (vo : Int32) (sp : Int32) (de : Int32) (w : Int32)  (h1_0 : ¬ w = (0 : Int32)) (h1_1 : ¬ w = (1 : Int32)) (h1_2 : ¬ w = (2 : Int32)) (h1_3 : ¬ w = (3 : Int32)) (h1_4 : w = (4 : Int32)) : f_V_count co r1 r2 vo sp de w = (r2) := by
  exact ((if_neg h1_0).trans ((if_neg h1_1).trans ((if_neg h1_2).trans ((if_neg h1_3).trans (if_pos h1_4)))))
theorem f_V_count_e5 (co : Int32) (r1 : Int32) (r2 : Int32) (vo : Int32) (sp : Int32) (de : Int32) (w : Int32)  (h1_0 : ¬ w = (0 : Int32)) (h1_1 : ¬ w = (1 : Int32)) (h1_2 : ¬ w = (2 : Int32)) (h1_3 : ¬ w = (3 : Int32)) (h1_4 : ¬ w = (4 : Int32)) (h1_5 : w = (5 : Int32)) : f_V_count co r1 r2 vo sp de w = (sp) := by
  exact ((if_neg h1_0).trans ((if_neg h1_1).trans ((if_neg h1_2).trans ((if_neg h1_3).trans ((if_neg h1_4).trans (if_pos h1_5))))))
theorem f_V_count_e6 (co : Int32) (r1 : Int32) (r2 : Int32) (vo : Int32) (sp : Int32) (de : Int32) (w : Int32)  (h1_0 : ¬ w = (0 : Int32)) (h1_1 : ¬ w = (1 : Int32)) (h1_2 : ¬ w = (2 : Int32)) (h1_3 : ¬ w = (3 : Int32)) (h1_4 : ¬ w = (4 : Int32)) (h1_5 : ¬ w = (5 : Int32)) : f_V_count co r1 r2 vo sp de w = ((-1 : Int32)) := by
  exact ((if_neg h1_0).trans ((if_neg h1_1).trans ((if_neg h1_2).trans ((if_neg h1_3).trans ((if_neg h1_4).trans (if_neg h1_5))))))
set_option maxHeartbeats 4000000 in
set_option maxRecDepth 100000 in
theorem c_V_count (l : Launch) (D : va_G) (cI cL : ClassId) (a0 a1 a2 a3 a4 a5 a6 a7 a8 a9 a10 a11 a12 : Nat) (sz : Nat) (ev : Int32) (K : Nat → Int64) (co : Int32) (L1 : Nat → Int64) (r1 : Int32) (L2 : Nat → Int64) (r2 : Int32) (R : Nat → Int32) (vo : Int32) (FC : Nat → Int32) (FP : Nat → Int32) (FB : Nat → Int32) (fs : Int32) (cy : Int32) (sp : Int32) (de : Int32) (ca : Int32) (va : Int32) (w : Int32)  : Met l y_V_count w_V_count ({ frames := 0, cells := 0, slots := 0, locals := 0 }) (va_Pc [.ref a0, .int w] (PW D cI cL (W_V cI cL a0 a1 a2 a3 a4 a5 a6 a7 a8 a9 a10 a11 a12 ev K co L1 r1 L2 r2 R vo FC FP FB fs cy sp de ca va) sz)) (q_V_count D cI cL a0 a1 a2 a3 a4 a5 a6 a7 a8 a9 a10 a11 a12 (va_A (W_V cI cL a0 a1 a2 a3 a4 a5 a6 a7 a8 a9 a10 a11 a12 ev K co L1 r1 L2 r2 R vo FC FP FB fs cy sp de ca va) sz) ev K co L1 r1 L2 r2 R vo FC FP FB fs cy sp de ca va (f_V_count co r1 r2 vo sp de w)) 0 0 (va_A (W_V cI cL a0 a1 a2 a3 a4 a5 a6 a7 a8 a9 a10 a11 a12 ev K co L1 r1 L2 r2 R vo FC FP FB fs cy sp de ca va) sz) := by
  refine mk_met (Qf := fun A => q_V_count D cI cL a0 a1 a2 a3 a4 a5 a6 a7 a8 a9 a10 a11 a12 A ev K co L1 r1 L2 r2 R vo FC FP FB fs cy sp de ca va (f_V_count co r1 r2 vo sp de w)) (by decide) (Nat.le_of_ble_eq_true rfl) ?_
  intro p e s m below meth c A ls hx hb hr hlocks hml hown hg hK hN hT hA hP hD hS hnm hl
  refine lv_iload_n hx hb d_V_count_0 rfl (lv_at hl 1 rfl) ?_
  by_cases h1_0 : w = (0 : Int32)
  · refine lv_tableIn (tgt := 40) hx hb d_V_count_1 (by rw [h1_0]; decide) (by rw [h1_0]; decide) (by rw [h1_0]; rfl) (by decide) ?_
    refine lv_aload_n hx hb d_V_count_40 rfl (lv_at hl 0 rfl) ?_
    refine va_get (ci := 0) (C := R_V) (T := F_V) (N := 11) hx hb hg in_V hown hK hP 0 rfl rfl 1 (by decide) (hg _ m_161) (fun _ h => h) rfl d_V_count_41 ?_
    refine va_getN (ci := 1) (C := R_Me) (T := F_Me) (N := 2) hx hb hg in_Me hown hK hP 1 rfl rfl 1 (by decide) (hN.use m_93) (fun _ h => h) rfl d_V_count_44 ?_
    rw [f_V_count_e0 co r1 r2 vo sp de w h1_0]
    exact W.iret hx hb hr (fun t ht hW => ⟨⟨_, (), rfl, rfl, by show va_P D classes _ t.heap; rw [ht]; exact hP⟩, hS.F ht⟩) hS.2.2 d_V_count_47 hlocks
  · by_cases h1_1 : w = (1 : Int32)
    · refine lv_tableIn (tgt := 48) hx hb d_V_count_1 (by rw [h1_1]; decide) (by rw [h1_1]; decide) (by rw [h1_1]; rfl) (by decide) ?_
      refine lv_aload_n hx hb d_V_count_48 rfl (lv_at hl 0 rfl) ?_
      refine va_get (ci := 0) (C := R_V) (T := F_V) (N := 11) hx hb hg in_V hown hK hP 0 rfl rfl 8 (by decide) (hg _ m_168) (fun _ h => h) rfl d_V_count_49 ?_
      rw [f_V_count_e1 co r1 r2 vo sp de w h1_0 h1_1]
      exact W.iret hx hb hr (fun t ht hW => ⟨⟨_, (), rfl, rfl, by show va_P D classes _ t.heap; rw [ht]; exact hP⟩, hS.F ht⟩) hS.2.2 d_V_count_52 hlocks
    · by_cases h1_2 : w = (2 : Int32)
      · refine lv_tableIn (tgt := 53) hx hb d_V_count_1 (by rw [h1_2]; decide) (by rw [h1_2]; decide) (by rw [h1_2]; rfl) (by decide) ?_
        refine lv_aload_n hx hb d_V_count_53 rfl (lv_at hl 0 rfl) ?_
        refine va_get (ci := 0) (C := R_V) (T := F_V) (N := 11) hx hb hg in_V hown hK hP 0 rfl rfl 4 (by decide) (hg _ m_164) (fun _ h => h) rfl d_V_count_54 ?_
        refine va_getN (ci := 3) (C := R_Re) (T := F_Re) (N := 2) hx hb hg in_Re hown hK hP 7 rfl rfl 1 (by decide) (hN.use m_124) (fun _ h => h) rfl d_V_count_57 ?_
        rw [f_V_count_e2 co r1 r2 vo sp de w h1_0 h1_1 h1_2]
        exact W.iret hx hb hr (fun t ht hW => ⟨⟨_, (), rfl, rfl, by show va_P D classes _ t.heap; rw [ht]; exact hP⟩, hS.F ht⟩) hS.2.2 d_V_count_60 hlocks
      · by_cases h1_3 : w = (3 : Int32)
        · refine lv_tableIn (tgt := 61) hx hb d_V_count_1 (by rw [h1_3]; decide) (by rw [h1_3]; decide) (by rw [h1_3]; rfl) (by decide) ?_
          refine lv_aload_n hx hb d_V_count_61 rfl (lv_at hl 0 rfl) ?_
          refine va_get (ci := 0) (C := R_V) (T := F_V) (N := 11) hx hb hg in_V hown hK hP 0 rfl rfl 2 (by decide) (hg _ m_162) (fun _ h => h) rfl d_V_count_62 ?_
          refine va_getN (ci := 2) (C := R_Ca) (T := F_Ca) (N := 2) hx hb hg in_Ca hown hK hP 3 rfl rfl 1 (by decide) (hN.use m_109) (fun _ h => h) rfl d_V_count_65 ?_
          rw [f_V_count_e3 co r1 r2 vo sp de w h1_0 h1_1 h1_2 h1_3]
          exact W.iret hx hb hr (fun t ht hW => ⟨⟨_, (), rfl, rfl, by show va_P D classes _ t.heap; rw [ht]; exact hP⟩, hS.F ht⟩) hS.2.2 d_V_count_68 hlocks
        · by_cases h1_4 : w = (4 : Int32)
          · refine lv_tableIn (tgt := 69) hx hb d_V_count_1 (by rw [h1_4]; decide) (by rw [h1_4]; decide) (by rw [h1_4]; rfl) (by decide) ?_
            refine lv_aload_n hx hb d_V_count_69 rfl (lv_at hl 0 rfl) ?_
            refine va_get (ci := 0) (C := R_V) (T := F_V) (N := 11) hx hb hg in_V hown hK hP 0 rfl rfl 3 (by decide) (hg _ m_163) (fun _ h => h) rfl d_V_count_70 ?_
            refine va_getN (ci := 2) (C := R_Ca) (T := F_Ca) (N := 2) hx hb hg in_Ca hown hK hP 5 rfl rfl 1 (by decide) (hN.use m_109) (fun _ h => h) rfl d_V_count_73 ?_
            rw [f_V_count_e4 co r1 r2 vo sp de w h1_0 h1_1 h1_2 h1_3 h1_4]
            exact W.iret hx hb hr (fun t ht hW => ⟨⟨_, (), rfl, rfl, by show va_P D classes _ t.heap; rw [ht]; exact hP⟩, hS.F ht⟩) hS.2.2 d_V_count_76 hlocks
          · by_cases h1_5 : w = (5 : Int32)
            · refine lv_tableIn (tgt := 77) hx hb d_V_count_1 (by rw [h1_5]; decide) (by rw [h1_5]; decide) (by rw [h1_5]; rfl) (by decide) ?_
              refine lv_aload_n hx hb d_V_count_77 rfl (lv_at hl 0 rfl) ?_
              refine va_get (ci := 0) (C := R_V) (T := F_V) (N := 11) hx hb hg in_V hown hK hP 0 rfl rfl 7 (by decide) (hg _ m_167) (fun _ h => h) rfl d_V_count_78 ?_
              rw [f_V_count_e5 co r1 r2 vo sp de w h1_0 h1_1 h1_2 h1_3 h1_4 h1_5]
              exact W.iret hx hb hr (fun t ht hW => ⟨⟨_, (), rfl, rfl, by show va_P D classes _ t.heap; rw [ht]; exact hP⟩, hS.F ht⟩) hS.2.2 d_V_count_81 hlocks
            · refine lv_tableOut (tgt := 82) hx hb d_V_count_1 (by have n0 := lv_neT (a := 0) h1_0 (by decide); have n1 := lv_neT (a := 1) h1_1 (by decide); have n2 := lv_neT (a := 2) h1_2 (by decide); have n3 := lv_neT (a := 3) h1_3 (by decide); have n4 := lv_neT (a := 4) h1_4 (by decide); have n5 := lv_neT (a := 5) h1_5 (by decide); omega) (by decide) ?_
              refine lv_iconst (v := -1) hx hb d_V_count_82 (by decide) ?_
              rw [f_V_count_e6 co r1 r2 vo sp de w h1_0 h1_1 h1_2 h1_3 h1_4 h1_5]
              exact W.iret hx hb hr (fun t ht hW => ⟨⟨_, (), rfl, rfl, by show va_P D classes _ t.heap; rw [ht]; exact hP⟩, hS.F ht⟩) hS.2.2 d_V_count_83 hlocks
abbrev q_V_stop (D : va_G) (cI cL : ClassId) (a0 a1 a2 a3 a4 a5 a6 a7 a8 a9 a10 a11 a12 : Nat) (A : Nat → Prop) (ev : Int32) (K : Nat → Int64) (co : Int32) (L1 : Nat → Int64) (r1 : Int32) (L2 : Nat → Int64) (r2 : Int32) (R : Nat → Int32) (vo : Int32) (FC : Nat → Int32) (FP : Nat → Int32) (FB : Nat → Int32) (fs : Int32) (cy : Int32) (sp : Int32) (de : Int32) (ca : Int32) (va : Int32) (F : Int32 × Int32) : Array Value → State → Outcome → State → Prop := va_Qv (fun (_ : Unit) => True) (fun _ t => va_P D classes (W_V cI cL a0 a1 a2 a3 a4 a5 a6 a7 a8 a9 a10 a11 a12 ev K co L1 r1 L2 r2 R vo FC FP FB fs cy sp de F.1 F.2) t.heap) A
set_option maxHeartbeats 4000000 in
set_option maxRecDepth 100000 in
theorem c_V_stop (l : Launch) (D : va_G) (cI cL : ClassId) (a0 a1 a2 a3 a4 a5 a6 a7 a8 a9 a10 a11 a12 : Nat) (sz : Nat) (ev : Int32) (K : Nat → Int64) (co : Int32) (L1 : Nat → Int64) (r1 : Int32) (L2 : Nat → Int64) (r2 : Int32) (R : Nat → Int32) (vo : Int32) (FC : Nat → Int32) (FP : Nat → Int32) (FB : Nat → Int32) (fs : Int32) (cy : Int32) (sp : Int32) (de : Int32) (ca : Int32) (va : Int32) (x : Int32) (v : Int32)  : Met l y_V_stop w_V_stop ({ frames := 0, cells := 0, slots := 0, locals := 0 }) (va_Pc [.ref a0, .int x, .int v] (PW D cI cL (W_V cI cL a0 a1 a2 a3 a4 a5 a6 a7 a8 a9 a10 a11 a12 ev K co L1 r1 L2 r2 R vo FC FP FB fs cy sp de ca va) sz)) (q_V_stop D cI cL a0 a1 a2 a3 a4 a5 a6 a7 a8 a9 a10 a11 a12 (va_A (W_V cI cL a0 a1 a2 a3 a4 a5 a6 a7 a8 a9 a10 a11 a12 ev K co L1 r1 L2 r2 R vo FC FP FB fs cy sp de ca va) sz) ev K co L1 r1 L2 r2 R vo FC FP FB fs cy sp de ca va (f_V_stop ca va x v)) 0 0 (va_A (W_V cI cL a0 a1 a2 a3 a4 a5 a6 a7 a8 a9 a10 a11 a12 ev K co L1 r1 L2 r2 R vo FC FP FB fs cy sp de ca va) sz) := by
  refine mk_met (Qf := fun A => q_V_stop D cI cL a0 a1 a2 a3 a4 a5 a6 a7 a8 a9 a10 a11 a12 A ev K co L1 r1 L2 r2 R vo FC FP FB fs cy sp de ca va (f_V_stop ca va x v)) (by decide) (Nat.le_of_ble_eq_true rfl) ?_
  intro p e s m below meth c A ls hx hb hr hlocks hml hown hg hK hN hT hA hP hD hS hnm hl
  refine lv_aload_n hx hb d_V_stop_0 rfl (lv_at hl 0 rfl) ?_
  refine lv_iload_n hx hb d_V_stop_1 rfl (lv_at hl 1 rfl) ?_
  refine va_put (ci := 0) (ty := .int) (C := R_V) (T := F_V) (N := 11) hx hb hg in_V t_V t_V_ok n_V hown hK hP hD hS 0 rfl rfl 9 (by decide) (hg _ m_169) (fun _ h => h) rfl (by decide +kernel) rfl rfl (Nat.le_of_ble_eq_true rfl) d_V_stop_2 (fun H locs hP hD hS => ?_)
  have hP : va_P D classes (W_V cI cL a0 a1 a2 a3 a4 a5 a6 a7 a8 a9 a10 a11 a12 ev K co L1 r1 L2 r2 R vo FC FP FB fs cy sp de x va) H := hP
  have hD : va_D A (W_V cI cL a0 a1 a2 a3 a4 a5 a6 a7 a8 a9 a10 a11 a12 ev K co L1 r1 L2 r2 R vo FC FP FB fs cy sp de x va) := hD
  refine lv_aload_n hx hb d_V_stop_5 rfl (lv_at hl 0 rfl) ?_
  refine lv_iload_n hx hb d_V_stop_6 rfl (lv_at hl 2 rfl) ?_
  refine va_put (ci := 0) (ty := .int) (C := R_V) (T := F_V) (N := 11) hx hb hg in_V t_V t_V_ok n_V hown hK hP hD hS 0 rfl rfl 10 (by decide) (hg _ m_170) (fun _ h => h) rfl (by decide +kernel) rfl rfl (Nat.le_of_ble_eq_true rfl) d_V_stop_7 (fun H locs hP hD hS => ?_)
  have hP : va_P D classes (W_V cI cL a0 a1 a2 a3 a4 a5 a6 a7 a8 a9 a10 a11 a12 ev K co L1 r1 L2 r2 R vo FC FP FB fs cy sp de x v) H := hP
  have hD : va_D A (W_V cI cL a0 a1 a2 a3 a4 a5 a6 a7 a8 a9 a10 a11 a12 ev K co L1 r1 L2 r2 R vo FC FP FB fs cy sp de x v) := hD
  exact W.vret hx hb hr (fun t ht hW => ⟨⟨(), rfl, trivial, by show va_P D classes _ t.heap; rw [ht]; exact hP⟩, hS.F ht⟩) hS.2.2 d_V_stop_10 hlocks
abbrev q_V_resume (D : va_G) (cI cL : ClassId) (a0 a1 a2 a3 a4 a5 a6 a7 a8 a9 a10 a11 a12 : Nat) (A : Nat → Prop) (ev : Int32) (K : Nat → Int64) (co : Int32) (L1 : Nat → Int64) (r1 : Int32) (L2 : Nat → Int64) (r2 : Int32) (R : Nat → Int32) (vo : Int32) (FC : Nat → Int32) (FP : Nat → Int32) (FB : Nat → Int32) (fs : Int32) (cy : Int32) (sp : Int32) (de : Int32) (ca : Int32) (va : Int32) (F : Int32 × (Nat → Int32) × Int32 × Int32) : Array Value → State → Outcome → State → Prop := va_Qi (fun r (_ : Unit) => r = F.1) (fun _ t => va_P D classes (W_V cI cL a0 a1 a2 a3 a4 a5 a6 a7 a8 a9 a10 a11 a12 ev K co L1 r1 L2 r2 F.2.1 vo FC FP FB fs cy sp de F.2.2.1 F.2.2.2) t.heap) A
theorem f_V_resume_e0 (R : Nat → Int32) (ca : Int32) (va : Int32) (v : Int32) (t1 : Int32 × Int32) (e_t1 : f_V_stop ca va (0 : Int32) (0 : Int32) = t1) (h4 : ¬ ca = 0) : f_V_resume R ca va v = ((1 : Int32), (f_Re_put R (0 : Int32) v), t1.1, t1.2) := by
  subst e_t1
  exact (if_neg h4)
theorem f_V_resume_e1 (R : Nat → Int32) (ca : Int32) (va : Int32) (v : Int32)  (h4 : ca = 0) : f_V_resume R ca va v = ((0 : Int32), R, ca, va) := by
  exact (if_pos h4)
set_option maxHeartbeats 4000000 in
set_option maxRecDepth 100000 in
theorem c_V_resume (l : Launch) (D : va_G) (cI cL : ClassId) (a0 a1 a2 a3 a4 a5 a6 a7 a8 a9 a10 a11 a12 : Nat) (sz : Nat) (ev : Int32) (K : Nat → Int64) (co : Int32) (L1 : Nat → Int64) (r1 : Int32) (L2 : Nat → Int64) (r2 : Int32) (R : Nat → Int32) (vo : Int32) (FC : Nat → Int32) (FP : Nat → Int32) (FB : Nat → Int32) (fs : Int32) (cy : Int32) (sp : Int32) (de : Int32) (ca : Int32) (va : Int32) (v : Int32)  : Met l y_V_resume w_V_resume ({ frames := 1, cells := 0, slots := 0, locals := 22 }) (va_Pc [.ref a0, .int v] (PW D cI cL (W_V cI cL a0 a1 a2 a3 a4 a5 a6 a7 a8 a9 a10 a11 a12 ev K co L1 r1 L2 r2 R vo FC FP FB fs cy sp de ca va) sz)) (q_V_resume D cI cL a0 a1 a2 a3 a4 a5 a6 a7 a8 a9 a10 a11 a12 (va_A (W_V cI cL a0 a1 a2 a3 a4 a5 a6 a7 a8 a9 a10 a11 a12 ev K co L1 r1 L2 r2 R vo FC FP FB fs cy sp de ca va) sz) ev K co L1 r1 L2 r2 R vo FC FP FB fs cy sp de ca va (f_V_resume R ca va v)) 0 0 (va_A (W_V cI cL a0 a1 a2 a3 a4 a5 a6 a7 a8 a9 a10 a11 a12 ev K co L1 r1 L2 r2 R vo FC FP FB fs cy sp de ca va) sz) := by
  refine mk_met (Qf := fun A => q_V_resume D cI cL a0 a1 a2 a3 a4 a5 a6 a7 a8 a9 a10 a11 a12 A ev K co L1 r1 L2 r2 R vo FC FP FB fs cy sp de ca va (f_V_resume R ca va v)) (by decide) (Nat.le_of_ble_eq_true rfl) ?_
  intro p e s m below meth c A ls hx hb hr hlocks hml hown hg hK hN hT hA hP hD hS hnm hl
  refine lv_aload_n hx hb d_V_resume_0 rfl (lv_at hl 0 rfl) ?_
  refine va_get (ci := 0) (C := R_V) (T := F_V) (N := 11) hx hb hg in_V hown hK hP 0 rfl rfl 9 (by decide) (hg _ m_169) (fun _ h => h) rfl d_V_resume_1 ?_
  refine lv_if_ne (tgt := 9) hx hb d_V_resume_4 (by decide) (fun h4 => ?_) (fun h4 => ?_)
  · refine lv_aload_n hx hb d_V_resume_9 rfl (lv_at hl 0 rfl) ?_
    refine lv_iconst (v := 0) hx hb d_V_resume_10 (by decide) ?_
    refine lv_iconst (v := 0) hx hb d_V_resume_11 (by decide) ?_
    refine cj_v (wc := (W_V cI cL a0 a1 a2 a3 a4 a5 a6 a7 a8 a9 a10 a11 a12 ev K co L1 r1 L2 r2 R vo FC FP FB fs cy sp de ca va)) (w1 := (W_V cI cL a0 a1 a2 a3 a4 a5 a6 a7 a8 a9 a10 a11 a12 ev K co L1 r1 L2 r2 R vo FC FP FB fs cy sp de ((f_V_stop ca va (0 : Int32) (0 : Int32)).1) ((f_V_stop ca va (0 : Int32) (0 : Int32)).2))) hP hD hS hA [0, 1, 2, 3, 4, 5, 6, 7, 8, 9, 10, 11, 12] rfl [a0, a1, a2, a3, a4, a5, a6, a7, a8, a9, a10, a11, a12] rfl rfl (va_runV (rest := []) ⟨hx, hb, hml, hown, hg⟩ (c_V_stop l D cI cL a0 a1 a2 a3 a4 a5 a6 a7 a8 a9 a10 a11 a12 _ ev K co L1 r1 L2 r2 R vo FC FP FB fs cy sp de ca va (0 : Int32) (0 : Int32)) ⟨callB_of 2 hg (gw_good m_321) rfl rfl rfl (hg _ m_65) (hg _ m_318) hd_V_stop ⟨Nat.le_of_ble_eq_true rfl, Nat.le_of_ble_eq_true rfl⟩, hg _ m_320, hg _ m_11⟩ (pw_V hK hN hT hA hP hD hS [0, 1, 2, 3, 4, 5, 6, 7, 8, 9, 10, 11, 12] rfl (by decide) (q0 := 0) (ci := 0) rfl rfl) rfl rfl hl.1 rfl (lv_room (Nat.le_of_ble_eq_true rfl)) d_V_resume_12 ⟨Nat.le_of_ble_eq_true rfl, Nat.le_of_ble_eq_true rfl⟩) (fun H locs hP hD hS => ?_)
    have hP : va_P D classes (W_V cI cL a0 a1 a2 a3 a4 a5 a6 a7 a8 a9 a10 a11 a12 ev K co L1 r1 L2 r2 R vo FC FP FB fs cy sp de ((f_V_stop ca va (0 : Int32) (0 : Int32)).1) ((f_V_stop ca va (0 : Int32) (0 : Int32)).2)) H := hP
    have hD : va_D A (W_V cI cL a0 a1 a2 a3 a4 a5 a6 a7 a8 a9 a10 a11 a12 ev K co L1 r1 L2 r2 R vo FC FP FB fs cy sp de ((f_V_stop ca va (0 : Int32) (0 : Int32)).1) ((f_V_stop ca va (0 : Int32) (0 : Int32)).2)) := hD
    generalize e_t1 : f_V_stop ca va (0 : Int32) (0 : Int32) = t1 at hP hD ⊢
    obtain ⟨t1_0, t1_1⟩ := t1
    have hP : va_P D classes (W_V cI cL a0 a1 a2 a3 a4 a5 a6 a7 a8 a9 a10 a11 a12 ev K co L1 r1 L2 r2 R vo FC FP FB fs cy sp de t1_0 t1_1) H := hP
    have hD : va_D A (W_V cI cL a0 a1 a2 a3 a4 a5 a6 a7 a8 a9 a10 a11 a12 ev K co L1 r1 L2 r2 R vo FC FP FB fs cy sp de t1_0 t1_1) := hD
    refine lv_aload_n hx hb d_V_resume_15 rfl (lv_at hl 0 rfl) ?_
    refine va_get (ci := 0) (C := R_V) (T := F_V) (N := 11) hx hb hg in_V hown hK hP 0 rfl rfl 4 (by decide) (hg _ m_164) (fun _ h => h) rfl d_V_resume_16 ?_
    refine lv_iconst (v := 0) hx hb d_V_resume_19 (by decide) ?_
    refine lv_iload_n hx hb d_V_resume_20 rfl (lv_at hl 1 rfl) ?_
    refine cj_v (wc := (W_Re cI cL a7 a8 R vo)) (w1 := (W_Re cI cL a7 a8 (f_Re_put R (0 : Int32) v) vo)) hP hD hS hA [7, 8] rfl [a7, a8] rfl rfl (va_runVN (rest := []) ⟨hx, hb, hml, hown, hg⟩ (c_Re_put l D cI cL a7 a8 _ R vo (0 : Int32) v (vp_ofb (by decide))) ⟨va_cnB 2 hg (gw_good m_240) rfl rfl rfl (hN _ m_237) (hg _ m_68) hd_Re_put ⟨Nat.le_of_ble_eq_true rfl, Nat.le_of_ble_eq_true rfl⟩, hg _ m_239, hg _ m_2⟩ (pw_V hK hN hT hA hP hD hS [7, 8] rfl (by decide) (q0 := 7) (ci := 3) rfl rfl) rfl rfl hl.1 rfl (lv_room (Nat.le_of_ble_eq_true rfl)) d_V_resume_21 ⟨Nat.le_of_ble_eq_true rfl, Nat.le_of_ble_eq_true rfl⟩) (fun H locs hP hD hS => ?_)
    have hP : va_P D classes (W_V cI cL a0 a1 a2 a3 a4 a5 a6 a7 a8 a9 a10 a11 a12 ev K co L1 r1 L2 r2 (f_Re_put R (0 : Int32) v) vo FC FP FB fs cy sp de t1_0 t1_1) H := hP
    have hD : va_D A (W_V cI cL a0 a1 a2 a3 a4 a5 a6 a7 a8 a9 a10 a11 a12 ev K co L1 r1 L2 r2 (f_Re_put R (0 : Int32) v) vo FC FP FB fs cy sp de t1_0 t1_1) := hD
    refine lv_iconst (v := 1) hx hb d_V_resume_24 (by decide) ?_
    rw [f_V_resume_e0 R ca va v (t1_0, t1_1) e_t1 h4]
    exact W.zret hx hb hr rfl (fun t ht hW => ⟨⟨_, (), rfl, rfl, by show va_P D classes _ t.heap; rw [ht]; exact hP⟩, hS.F ht⟩) hS.2.2 d_V_resume_25 hlocks
  · refine lv_iconst (v := 0) hx hb d_V_resume_7 (by decide) ?_
    rw [f_V_resume_e1 R ca va v h4]
    exact W.zret hx hb hr rfl (fun t ht hW => ⟨⟨_, (), rfl, rfl, by show va_P D classes _ t.heap; rw [ht]; exact hP⟩, hS.F ht⟩) hS.2.2 d_V_resume_8 hlocks
abbrev q_V_makePlannedFaults (D : va_G) (cI cL : ClassId) (a0 a1 a2 a3 a4 a5 a6 a7 a8 a9 a10 a11 a12 : Nat) (A : Nat → Prop) (ev : Int32) (K : Nat → Int64) (co : Int32) (L1 : Nat → Int64) (r1 : Int32) (L2 : Nat → Int64) (r2 : Int32) (R : Nat → Int32) (vo : Int32) (FC : Nat → Int32) (FP : Nat → Int32) (FB : Nat → Int32) (fs : Int32) (cy : Int32) (sp : Int32) (de : Int32) (ca : Int32) (va : Int32) (F : (Nat → Int64) × (Nat → Int64) × (Nat → Int64) × (Nat → Int32) × (Nat → Int32) × (Nat → Int32) × (Nat → Int32) × Int32) : Array Value → State → Outcome → State → Prop := va_Qv (fun (_ : Unit) => True) (fun _ t => va_P D classes (W_V cI cL a0 a1 a2 a3 a4 a5 a6 a7 a8 a9 a10 a11 a12 ev F.1 co F.2.1 r1 F.2.2.1 r2 F.2.2.2.1 vo F.2.2.2.2.1 F.2.2.2.2.2.1 F.2.2.2.2.2.2.1 F.2.2.2.2.2.2.2 cy sp de ca va) t.heap) A
theorem f_V_makePlannedFaults_e1 (cy : Int32) (n : Nat) (j : Nat) (le : Int32) (K_ : Nat → Int64) (L1_ : Nat → Int64) (L2_ : Nat → Int64) (R_ : Nat → Int32) (FC_ : Nat → Int32) (FP_ : Nat → Int32) (FB_ : Nat → Int32) (t1 : (Nat → Int32) × (Nat → Int32) × (Nat → Int32)) (e_t1 : f_Fa_move FC_ FP_ FB_ (nI j) le = t1) (h28 : ¬ (FC_ (nI j).toNatClampNeg) = cy) : f_V_makePlannedFaults_l4 cy (n + 1) j le K_ L1_ L2_ R_ FC_ FP_ FB_ = f_V_makePlannedFaults_l4 cy n (j + 1) (le + 1) K_ L1_ L2_ R_ t1.1 t1.2.1 t1.2.2 := by
  subst e_t1
  exact (if_neg h28)
theorem f_V_makePlannedFaults_e2 (cy : Int32) (n : Nat) (j : Nat) (le : Int32) (K_ : Nat → Int64) (L1_ : Nat → Int64) (L2_ : Nat → Int64) (R_ : Nat → Int32) (FC_ : Nat → Int32) (FP_ : Nat → Int32) (FB_ : Nat → Int32) (t2 : (Nat → Int64) × (Nat → Int64) × (Nat → Int64) × (Nat → Int32)) (e_t2 : f_V_invert K_ L1_ L2_ R_ (FP_ (nI j).toNatClampNeg) (FB_ (nI j).toNatClampNeg) = t2) (h28 : (FC_ (nI j).toNatClampNeg) = cy) : f_V_makePlannedFaults_l4 cy (n + 1) j le K_ L1_ L2_ R_ FC_ FP_ FB_ = f_V_makePlannedFaults_l4 cy n (j + 1) le t2.1 t2.2.1 t2.2.2.1 t2.2.2.2 FC_ FP_ FB_ := by
  subst e_t2
  exact (if_pos h28)
set_option maxHeartbeats 4000000 in
set_option maxRecDepth 100000 in
theorem c_V_makePlannedFaults (l : Launch) (D : va_G) (cI cL : ClassId) (a0 a1 a2 a3 a4 a5 a6 a7 a8 a9 a10 a11 a12 : Nat) (sz : Nat) (ev : Int32) (K : Nat → Int64) (co : Int32) (L1 : Nat → Int64) (r1 : Int32) (L2 : Nat → Int64) (r2 : Int32) (R : Nat → Int32) (vo : Int32) (FC : Nat → Int32) (FP : Nat → Int32) (FB : Nat → Int32) (fs : Int32) (cy : Int32) (sp : Int32) (de : Int32) (ca : Int32) (va : Int32)  (h_fs : vp_in fs 17) (h_fp : ∀ k, k < fs.toNatClampNeg → vp_in (FP k) 168) : Met l y_V_makePlannedFaults w_V_makePlannedFaults ({ frames := 1, cells := 0, slots := 0, locals := 22 }) (va_Pc [.ref a0] (PW D cI cL (W_V cI cL a0 a1 a2 a3 a4 a5 a6 a7 a8 a9 a10 a11 a12 ev K co L1 r1 L2 r2 R vo FC FP FB fs cy sp de ca va) sz)) (q_V_makePlannedFaults D cI cL a0 a1 a2 a3 a4 a5 a6 a7 a8 a9 a10 a11 a12 (va_A (W_V cI cL a0 a1 a2 a3 a4 a5 a6 a7 a8 a9 a10 a11 a12 ev K co L1 r1 L2 r2 R vo FC FP FB fs cy sp de ca va) sz) ev K co L1 r1 L2 r2 R vo FC FP FB fs cy sp de ca va (f_V_makePlannedFaults K L1 L2 R FC FP FB fs cy)) 0 0 (va_A (W_V cI cL a0 a1 a2 a3 a4 a5 a6 a7 a8 a9 a10 a11 a12 ev K co L1 r1 L2 r2 R vo FC FP FB fs cy sp de ca va) sz) := by
  refine mk_met (Qf := fun A => q_V_makePlannedFaults D cI cL a0 a1 a2 a3 a4 a5 a6 a7 a8 a9 a10 a11 a12 A ev K co L1 r1 L2 r2 R vo FC FP FB fs cy sp de ca va (f_V_makePlannedFaults K L1 L2 R FC FP FB fs cy)) (by decide) (Nat.le_of_ble_eq_true rfl) ?_
  intro p e s m below meth c A ls hx hb hr hlocks hml hown hg hK hN hT hA hP hD hS hnm hl
  have h16 : fs.toNatClampNeg ≤ 16 := cl17 h_fs
  refine lv_iconst (v := 0) hx hb d_V_makePlannedFaults_0 (by decide) ?_
  refine lv_istore_n (lv' := [(1, .int _), (0, .ref _)]) hx hb d_V_makePlannedFaults_1 rfl hl (by decide) rfl (fun ls hl => ?_)
  refine lv_iconst (v := 0) hx hb d_V_makePlannedFaults_2 (by decide) ?_
  refine lv_istore_n (lv' := [(2, .int _), (1, .int _), (0, .ref _)]) hx hb d_V_makePlannedFaults_3 rfl hl (by decide) rfl (fun ls hl => ?_)
  have loop : ∀ (n j : Nat) (le : Int32) (K_ : Nat → Int64) (L1_ : Nat → Int64) (L2_ : Nat → Int64) (R_ : Nat → Int32) (FC_ : Nat → Int32) (FP_ : Nat → Int32) (FB_ : Nat → Int32) (ls : Array Slot) (H : Heap) (locs : List Loc), j + n = fs.toNatClampNeg → (∃ q, le = nI q ∧ q ≤ j) → (∀ k, j ≤ k → k < fs.toNatClampNeg → vp_in (FP_ k) 168) → lv_has ls 3 [(2, .int (nI j)), (1, .int le), (0, .ref a0)] → va_P D classes (W_V cI cL a0 a1 a2 a3 a4 a5 a6 a7 a8 a9 a10 a11 a12 ev K_ co L1_ r1 L2_ r2 R_ vo FC_ FP_ FB_ fs cy sp de ca va) H → va_D A (W_V cI cL a0 a1 a2 a3 a4 a5 a6 a7 a8 a9 a10 a11 a12 ev K_ co L1_ r1 L2_ r2 R_ vo FC_ FP_ FB_ fs cy sp de ca va) → va_S A s.heap H locs → W p l e ({ frames := 1, cells := 0, slots := 0, locals := 22 } : Room) s m ([.ref a0] : List Value).toArray below meth c H locs 0 0 (MQ below (q_V_makePlannedFaults D cI cL a0 a1 a2 a3 a4 a5 a6 a7 a8 a9 a10 a11 a12 A ev K co L1 r1 L2 r2 R vo FC FP FB fs cy sp de ca va (f_V_makePlannedFaults_l4 cy n j le K_ L1_ L2_ R_ FC_ FP_ FB_)) ([.ref a0] : List Value).toArray s 0 0 A) (F0 m 4 ls []) := by
    intro n
    induction n with
    | zero =>
      intro j le K_ L1_ L2_ R_ FC_ FP_ FB_ ls H locs hj hle hfp hl hP hD hS
      refine lv_iload_n hx hb d_V_makePlannedFaults_4 rfl (lv_at hl 0 rfl) ?_
      refine lv_aload_n hx hb d_V_makePlannedFaults_5 rfl (lv_at hl 2 rfl) ?_
      refine va_get (ci := 0) (C := R_V) (T := F_V) (N := 11) hx hb hg in_V hown hK hP 0 rfl rfl 5 (by decide) (hg _ m_165) (fun _ h => h) rfl d_V_makePlannedFaults_6 ?_
      refine va_getN (ci := 4) (C := R_Fa) (T := F_Fa) (N := 4) hx hb hg in_Fa hown hK hP 9 rfl rfl 3 (by decide) (hN.use m_144) (fun _ h => h) rfl d_V_makePlannedFaults_9 ?_
      refine lv_icmp_ge (tgt := 74) hx hb d_V_makePlannedFaults_12 (by decide) (fun _ => ?_) (fun h => absurd (mp_z h_fs (by omega)) h)
      refine lv_aload_n hx hb d_V_makePlannedFaults_74 rfl (lv_at hl 2 rfl) ?_
      refine va_get (ci := 0) (C := R_V) (T := F_V) (N := 11) hx hb hg in_V hown hK hP 0 rfl rfl 5 (by decide) (hg _ m_165) (fun _ h => h) rfl d_V_makePlannedFaults_75 ?_
      refine lv_iload_n hx hb d_V_makePlannedFaults_78 rfl (lv_at hl 1 rfl) ?_
      refine va_putN (ci := 4) (ty := .int) (C := R_Fa) (T := F_Fa) (N := 4) hx hb hg in_Fa t_Fa t_Fa_ok n_Fa hown hK hP hD hS 9 rfl rfl 3 (by decide) (hN.use m_144) (fun _ h => h) rfl (by decide +kernel) rfl rfl (Nat.le_of_ble_eq_true rfl) d_V_makePlannedFaults_79 (fun H locs hP hD hS => ?_)
      have hP : va_P D classes (W_V cI cL a0 a1 a2 a3 a4 a5 a6 a7 a8 a9 a10 a11 a12 ev K_ co L1_ r1 L2_ r2 R_ vo FC_ FP_ FB_ le cy sp de ca va) H := hP
      have hD : va_D A (W_V cI cL a0 a1 a2 a3 a4 a5 a6 a7 a8 a9 a10 a11 a12 ev K_ co L1_ r1 L2_ r2 R_ vo FC_ FP_ FB_ le cy sp de ca va) := hD
      exact W.vret hx hb hr (fun t ht hW => ⟨⟨(), rfl, trivial, by show va_P D classes _ t.heap; rw [ht]; exact hP⟩, hS.F ht⟩) hS.2.2 d_V_makePlannedFaults_82 hlocks
    | succ n ih =>
      intro j le K_ L1_ L2_ R_ FC_ FP_ FB_ ls H locs hj hle hfp hl hP hD hS
      refine lv_iload_n hx hb d_V_makePlannedFaults_4 rfl (lv_at hl 0 rfl) ?_
      refine lv_aload_n hx hb d_V_makePlannedFaults_5 rfl (lv_at hl 2 rfl) ?_
      refine va_get (ci := 0) (C := R_V) (T := F_V) (N := 11) hx hb hg in_V hown hK hP 0 rfl rfl 5 (by decide) (hg _ m_165) (fun _ h => h) rfl d_V_makePlannedFaults_6 ?_
      refine va_getN (ci := 4) (C := R_Fa) (T := F_Fa) (N := 4) hx hb hg in_Fa hown hK hP 9 rfl rfl 3 (by decide) (hN.use m_144) (fun _ h => h) rfl d_V_makePlannedFaults_9 ?_
      refine lv_icmp_ge (tgt := 74) hx hb d_V_makePlannedFaults_12 (by decide) (fun h => absurd h (mp_s h_fs (by omega))) (fun _ => ?_)
      refine lv_aload_n hx hb d_V_makePlannedFaults_15 rfl (lv_at hl 2 rfl) ?_
      refine va_get (ci := 0) (C := R_V) (T := F_V) (N := 11) hx hb hg in_V hown hK hP 0 rfl rfl 5 (by decide) (hg _ m_165) (fun _ h => h) rfl d_V_makePlannedFaults_16 ?_
      refine va_getN (ci := 4) (C := R_Fa) (T := F_Fa) (N := 4) hx hb hg in_Fa hown hK hP 9 rfl rfl 0 (by decide) (hN.use m_138) (fun _ h => h) rfl d_V_makePlannedFaults_19 ?_
      refine lv_iload_n hx hb d_V_makePlannedFaults_22 rfl (lv_at hl 0 rfl) ?_
      refine va_iald hx hb hK hP 10 0 rfl rfl (vp_in_nI (by omega) (by decide)) d_V_makePlannedFaults_23 ?_
      refine lv_aload_n hx hb d_V_makePlannedFaults_24 rfl (lv_at hl 2 rfl) ?_
      refine va_get (ci := 0) (C := R_V) (T := F_V) (N := 11) hx hb hg in_V hown hK hP 0 rfl rfl 6 (by decide) (hg _ m_166) (fun _ h => h) rfl d_V_makePlannedFaults_25 ?_
      refine lv_icmp_ne (tgt := 56) hx hb d_V_makePlannedFaults_28 (by decide) (fun h28 => ?_) (fun h28 => ?_)
      · refine lv_aload_n hx hb d_V_makePlannedFaults_56 rfl (lv_at hl 2 rfl) ?_
        refine va_get (ci := 0) (C := R_V) (T := F_V) (N := 11) hx hb hg in_V hown hK hP 0 rfl rfl 5 (by decide) (hg _ m_165) (fun _ h => h) rfl d_V_makePlannedFaults_57 ?_
        refine lv_iload_n hx hb d_V_makePlannedFaults_60 rfl (lv_at hl 0 rfl) ?_
        refine lv_iload_n hx hb d_V_makePlannedFaults_61 rfl (lv_at hl 1 rfl) ?_
        refine cj_v (wc := (W_Fa cI cL a9 a10 a11 a12 FC_ FP_ FB_ fs)) (w1 := (W_Fa cI cL a9 a10 a11 a12 ((f_Fa_move FC_ FP_ FB_ (nI j) le).1) ((f_Fa_move FC_ FP_ FB_ (nI j) le).2.1) ((f_Fa_move FC_ FP_ FB_ (nI j) le).2.2) fs)) hP hD hS hA [9, 10, 11, 12] rfl [a9, a10, a11, a12] rfl rfl (va_runVN (rest := []) ⟨hx, hb, hml, hown, hg⟩ (c_Fa_move l D cI cL a9 a10 a11 a12 _ FC_ FP_ FB_ fs (nI j) le (vp_in_nI (by omega) (by decide)) (mp_le hle (by omega))) ⟨va_cnB 2 hg (gw_good m_304) rfl rfl rfl (hN _ m_301) (hg _ m_69) hd_Fa_move ⟨Nat.le_of_ble_eq_true rfl, Nat.le_of_ble_eq_true rfl⟩, hg _ m_303, hg _ m_8⟩ (pw_V hK hN hT hA hP hD hS [9, 10, 11, 12] rfl (by decide) (q0 := 9) (ci := 4) rfl rfl) rfl rfl hl.1 rfl (lv_room (Nat.le_of_ble_eq_true rfl)) d_V_makePlannedFaults_62 ⟨Nat.le_of_ble_eq_true rfl, Nat.le_of_ble_eq_true rfl⟩) (fun H locs hP hD hS => ?_)
        have hP : va_P D classes (W_V cI cL a0 a1 a2 a3 a4 a5 a6 a7 a8 a9 a10 a11 a12 ev K_ co L1_ r1 L2_ r2 R_ vo ((f_Fa_move FC_ FP_ FB_ (nI j) le).1) ((f_Fa_move FC_ FP_ FB_ (nI j) le).2.1) ((f_Fa_move FC_ FP_ FB_ (nI j) le).2.2) fs cy sp de ca va) H := hP
        have hD : va_D A (W_V cI cL a0 a1 a2 a3 a4 a5 a6 a7 a8 a9 a10 a11 a12 ev K_ co L1_ r1 L2_ r2 R_ vo ((f_Fa_move FC_ FP_ FB_ (nI j) le).1) ((f_Fa_move FC_ FP_ FB_ (nI j) le).2.1) ((f_Fa_move FC_ FP_ FB_ (nI j) le).2.2) fs cy sp de ca va) := hD
        generalize e_t1 : f_Fa_move FC_ FP_ FB_ (nI j) le = t1 at hP hD ⊢
        refine lv_iinc (k := 1) (v := _ + 1) (lv' := [(1, .int _), (2, .int _), (0, .ref _)]) hx hb d_V_makePlannedFaults_65 hl rfl rfl (by decide) rfl (fun ls hl => ?_)
        refine lv_iinc (k := 1) (v := nI (_ + 1)) (lv' := [(2, .int _), (1, .int _), (0, .ref _)]) hx hb d_V_makePlannedFaults_68 hl rfl (nI_1 _) (by decide) rfl (fun ls hl => ?_)
        refine lv_goto (tgt := 4) hx hb d_V_makePlannedFaults_71 (by decide) ?_
        rw [f_V_makePlannedFaults_e1 cy (n) j le K_ L1_ L2_ R_ FC_ FP_ FB_ t1 e_t1 h28]
        exact ih (j + 1) _ _ _ _ _ _ _ _ _ _ _ (by omega) (by obtain ⟨q, e, h⟩ := hle; first | exact ⟨q, e, by omega⟩ | exact ⟨q + 1, by rw [e]; exact nI_1 q, by omega⟩) (by first | exact fun k h1 h2 => hfp k (by omega) h2 | (intro k h1 h2; obtain ⟨q, e, h⟩ := hle; subst e_t1; show vp_in (upd FP_ le.toNatClampNeg _ k) 168; rw [pk_un (by rw [e, nI_clamp (by omega)]; omega)]; exact hfp k (by omega) h2)) (lv_sub hl [0, 1, 2] rfl) hP hD hS
      · refine lv_aload_n hx hb d_V_makePlannedFaults_31 rfl (lv_at hl 2 rfl) ?_
        refine lv_aload_n hx hb d_V_makePlannedFaults_32 rfl (lv_at hl 2 rfl) ?_
        refine va_get (ci := 0) (C := R_V) (T := F_V) (N := 11) hx hb hg in_V hown hK hP 0 rfl rfl 5 (by decide) (hg _ m_165) (fun _ h => h) rfl d_V_makePlannedFaults_33 ?_
        refine va_getN (ci := 4) (C := R_Fa) (T := F_Fa) (N := 4) hx hb hg in_Fa hown hK hP 9 rfl rfl 1 (by decide) (hN.use m_140) (fun _ h => h) rfl d_V_makePlannedFaults_36 ?_
        refine lv_iload_n hx hb d_V_makePlannedFaults_39 rfl (lv_at hl 0 rfl) ?_
        refine va_iald hx hb hK hP 11 0 rfl rfl (vp_in_nI (by omega) (by decide)) d_V_makePlannedFaults_40 ?_
        refine lv_aload_n hx hb d_V_makePlannedFaults_41 rfl (lv_at hl 2 rfl) ?_
        refine va_get (ci := 0) (C := R_V) (T := F_V) (N := 11) hx hb hg in_V hown hK hP 0 rfl rfl 5 (by decide) (hg _ m_165) (fun _ h => h) rfl d_V_makePlannedFaults_42 ?_
        refine va_getN (ci := 4) (C := R_Fa) (T := F_Fa) (N := 4) hx hb hg in_Fa hown hK hP 9 rfl rfl 2 (by decide) (hN.use m_142) (fun _ h => h) rfl d_V_makePlannedFaults_45 ?_
        refine lv_iload_n hx hb d_V_makePlannedFaults_48 rfl (lv_at hl 0 rfl) ?_
        refine va_iald hx hb hK hP 12 0 rfl rfl (vp_in_nI (by omega) (by decide)) d_V_makePlannedFaults_49 ?_
        have hq50 : vp_in (FP_ (nI j).toNatClampNeg) 168 := by rw [nI_clamp (by omega)]; exact hfp j (Nat.le_refl _) (by omega)
        refine cj_v (wc := (W_V cI cL a0 a1 a2 a3 a4 a5 a6 a7 a8 a9 a10 a11 a12 ev K_ co L1_ r1 L2_ r2 R_ vo FC_ FP_ FB_ fs cy sp de ca va)) (w1 := (W_V cI cL a0 a1 a2 a3 a4 a5 a6 a7 a8 a9 a10 a11 a12 ev ((f_V_invert K_ L1_ L2_ R_ (FP_ (nI j).toNatClampNeg) (FB_ (nI j).toNatClampNeg)).1) co ((f_V_invert K_ L1_ L2_ R_ (FP_ (nI j).toNatClampNeg) (FB_ (nI j).toNatClampNeg)).2.1) r1 ((f_V_invert K_ L1_ L2_ R_ (FP_ (nI j).toNatClampNeg) (FB_ (nI j).toNatClampNeg)).2.2.1) r2 ((f_V_invert K_ L1_ L2_ R_ (FP_ (nI j).toNatClampNeg) (FB_ (nI j).toNatClampNeg)).2.2.2) vo FC_ FP_ FB_ fs cy sp de ca va)) hP hD hS hA [0, 1, 2, 3, 4, 5, 6, 7, 8, 9, 10, 11, 12] rfl [a0, a1, a2, a3, a4, a5, a6, a7, a8, a9, a10, a11, a12] rfl rfl (va_runV (rest := []) ⟨hx, hb, hml, hown, hg⟩ (c_V_invert l D cI cL a0 a1 a2 a3 a4 a5 a6 a7 a8 a9 a10 a11 a12 _ ev K_ co L1_ r1 L2_ r2 R_ vo FC_ FP_ FB_ fs cy sp de ca va (FP_ (nI j).toNatClampNeg) (FB_ (nI j).toNatClampNeg) hq50) ⟨callB_of 2 hg (gw_good m_280) rfl rfl rfl (hg _ m_65) (hg _ m_277) hd_V_invert ⟨Nat.le_of_ble_eq_true rfl, Nat.le_of_ble_eq_true rfl⟩, hg _ m_279, hg _ m_5⟩ (pw_V hK hN hT hA hP hD hS [0, 1, 2, 3, 4, 5, 6, 7, 8, 9, 10, 11, 12] rfl (by decide) (q0 := 0) (ci := 0) rfl rfl) rfl rfl hl.1 rfl (lv_room (Nat.le_of_ble_eq_true rfl)) d_V_makePlannedFaults_50 ⟨Nat.le_of_ble_eq_true rfl, Nat.le_of_ble_eq_true rfl⟩) (fun H locs hP hD hS => ?_)
        have hP : va_P D classes (W_V cI cL a0 a1 a2 a3 a4 a5 a6 a7 a8 a9 a10 a11 a12 ev ((f_V_invert K_ L1_ L2_ R_ (FP_ (nI j).toNatClampNeg) (FB_ (nI j).toNatClampNeg)).1) co ((f_V_invert K_ L1_ L2_ R_ (FP_ (nI j).toNatClampNeg) (FB_ (nI j).toNatClampNeg)).2.1) r1 ((f_V_invert K_ L1_ L2_ R_ (FP_ (nI j).toNatClampNeg) (FB_ (nI j).toNatClampNeg)).2.2.1) r2 ((f_V_invert K_ L1_ L2_ R_ (FP_ (nI j).toNatClampNeg) (FB_ (nI j).toNatClampNeg)).2.2.2) vo FC_ FP_ FB_ fs cy sp de ca va) H := hP
        have hD : va_D A (W_V cI cL a0 a1 a2 a3 a4 a5 a6 a7 a8 a9 a10 a11 a12 ev ((f_V_invert K_ L1_ L2_ R_ (FP_ (nI j).toNatClampNeg) (FB_ (nI j).toNatClampNeg)).1) co ((f_V_invert K_ L1_ L2_ R_ (FP_ (nI j).toNatClampNeg) (FB_ (nI j).toNatClampNeg)).2.1) r1 ((f_V_invert K_ L1_ L2_ R_ (FP_ (nI j).toNatClampNeg) (FB_ (nI j).toNatClampNeg)).2.2.1) r2 ((f_V_invert K_ L1_ L2_ R_ (FP_ (nI j).toNatClampNeg) (FB_ (nI j).toNatClampNeg)).2.2.2) vo FC_ FP_ FB_ fs cy sp de ca va) := hD
        generalize e_t2 : f_V_invert K_ L1_ L2_ R_ (FP_ (nI j).toNatClampNeg) (FB_ (nI j).toNatClampNeg) = t2 at hP hD ⊢
        refine lv_goto (tgt := 68) hx hb d_V_makePlannedFaults_53 (by decide) ?_
        refine lv_iinc (k := 0) (v := nI (_ + 1)) (lv' := [(2, .int _), (1, .int _), (0, .ref _)]) hx hb d_V_makePlannedFaults_68 hl rfl (nI_1 _) (by decide) rfl (fun ls hl => ?_)
        refine lv_goto (tgt := 4) hx hb d_V_makePlannedFaults_71 (by decide) ?_
        rw [f_V_makePlannedFaults_e2 cy (n) j le K_ L1_ L2_ R_ FC_ FP_ FB_ t2 e_t2 h28]
        exact ih (j + 1) _ _ _ _ _ _ _ _ _ _ _ (by omega) (by obtain ⟨q, e, h⟩ := hle; first | exact ⟨q, e, by omega⟩ | exact ⟨q + 1, by rw [e]; exact nI_1 q, by omega⟩) (by first | exact fun k h1 h2 => hfp k (by omega) h2 | (intro k h1 h2; obtain ⟨q, e, h⟩ := hle; subst e_t1; show vp_in (upd FP_ le.toNatClampNeg _ k) 168; rw [pk_un (by rw [e, nI_clamp (by omega)]; omega)]; exact hfp k (by omega) h2)) (lv_sub hl [0, 1, 2] rfl) hP hD hS
  exact loop fs.toNatClampNeg 0 _ _ _ _ _ _ _ _ _ _ _ (by omega) ⟨0, rfl, Nat.le_refl _⟩ (fun k _ h => h_fp k h) hl hP hD hS
abbrev q_V_scrub (D : va_G) (cI cL : ClassId) (a0 a1 a2 a3 a4 a5 a6 a7 a8 a9 a10 a11 a12 : Nat) (A : Nat → Prop) (ev : Int32) (K : Nat → Int64) (co : Int32) (L1 : Nat → Int64) (r1 : Int32) (L2 : Nat → Int64) (r2 : Int32) (R : Nat → Int32) (vo : Int32) (FC : Nat → Int32) (FP : Nat → Int32) (FB : Nat → Int32) (fs : Int32) (cy : Int32) (sp : Int32) (de : Int32) (ca : Int32) (va : Int32) (F : (Nat → Int64) × Int32 × Int32 × Int32) : Array Value → State → Outcome → State → Prop := va_Qv (fun (_ : Unit) => True) (fun _ t => va_P D classes (W_V cI cL a0 a1 a2 a3 a4 a5 a6 a7 a8 a9 a10 a11 a12 ev F.1 F.2.1 L1 r1 L2 r2 R vo FC FP FB fs cy F.2.2.1 F.2.2.2 ca va) t.heap) A
theorem f_V_scrub_e0 (K : Nat → Int64) (co : Int32) (sp : Int32) (de : Int32) (t1 : Int64 × (Nat → Int64) × Int32) (e_t1 : f_Me_mend K co sp = t1) (h15 : ¬ (lg_cmp t1.1 (-2 : Int64)) = 0) : f_V_scrub K co sp de = (t1.2.1, t1.2.2, (u_rem (sp + (1 : Int32)) (64 : Int32)), de) := by
  subst e_t1
  exact (if_neg h15)
theorem f_V_scrub_e1 (K : Nat → Int64) (co : Int32) (sp : Int32) (de : Int32) (t1 : Int64 × (Nat → Int64) × Int32) (e_t1 : f_Me_mend K co sp = t1) (h15 : (lg_cmp t1.1 (-2 : Int64)) = 0) : f_V_scrub K co sp de = (t1.2.1, t1.2.2, (u_rem (sp + (1 : Int32)) (64 : Int32)), (de + (1 : Int32))) := by
  subst e_t1
  exact (if_pos h15)
set_option maxHeartbeats 4000000 in
set_option maxRecDepth 100000 in
theorem c_V_scrub (l : Launch) (D : va_G) (cI cL : ClassId) (a0 a1 a2 a3 a4 a5 a6 a7 a8 a9 a10 a11 a12 : Nat) (sz : Nat) (ev : Int32) (K : Nat → Int64) (co : Int32) (L1 : Nat → Int64) (r1 : Int32) (L2 : Nat → Int64) (r2 : Int32) (R : Nat → Int32) (vo : Int32) (FC : Nat → Int32) (FP : Nat → Int32) (FB : Nat → Int32) (fs : Int32) (cy : Int32) (sp : Int32) (de : Int32) (ca : Int32) (va : Int32)  (h_sp : vp_in sp 64) : Met l y_V_scrub w_V_scrub ({ frames := 4, cells := 0, slots := 0, locals := 90 }) (va_Pc [.ref a0] (PW D cI cL (W_V cI cL a0 a1 a2 a3 a4 a5 a6 a7 a8 a9 a10 a11 a12 ev K co L1 r1 L2 r2 R vo FC FP FB fs cy sp de ca va) sz)) (q_V_scrub D cI cL a0 a1 a2 a3 a4 a5 a6 a7 a8 a9 a10 a11 a12 (va_A (W_V cI cL a0 a1 a2 a3 a4 a5 a6 a7 a8 a9 a10 a11 a12 ev K co L1 r1 L2 r2 R vo FC FP FB fs cy sp de ca va) sz) ev K co L1 r1 L2 r2 R vo FC FP FB fs cy sp de ca va (f_V_scrub K co sp de)) 0 0 (va_A (W_V cI cL a0 a1 a2 a3 a4 a5 a6 a7 a8 a9 a10 a11 a12 ev K co L1 r1 L2 r2 R vo FC FP FB fs cy sp de ca va) sz) := by
  refine mk_met (Qf := fun A => q_V_scrub D cI cL a0 a1 a2 a3 a4 a5 a6 a7 a8 a9 a10 a11 a12 A ev K co L1 r1 L2 r2 R vo FC FP FB fs cy sp de ca va (f_V_scrub K co sp de)) (by decide) (Nat.le_of_ble_eq_true rfl) ?_
  intro p e s m below meth c A ls hx hb hr hlocks hml hown hg hK hN hT hA hP hD hS hnm hl
  refine lv_aload_n hx hb d_V_scrub_0 rfl (lv_at hl 0 rfl) ?_
  refine va_get (ci := 0) (C := R_V) (T := F_V) (N := 11) hx hb hg in_V hown hK hP 0 rfl rfl 1 (by decide) (hg _ m_161) (fun _ h => h) rfl d_V_scrub_1 ?_
  refine lv_aload_n hx hb d_V_scrub_4 rfl (lv_at hl 0 rfl) ?_
  refine va_get (ci := 0) (C := R_V) (T := F_V) (N := 11) hx hb hg in_V hown hK hP 0 rfl rfl 7 (by decide) (hg _ m_167) (fun _ h => h) rfl d_V_scrub_5 ?_
  refine cj_l (wc := (W_Me cI cL a1 a2 K co)) (w1 := (W_Me cI cL a1 a2 ((f_Me_mend K co sp).2.1) ((f_Me_mend K co sp).2.2))) hP hD hS hA [1, 2] rfl [a1, a2] rfl rfl (va_runVN (rest := []) ⟨hx, hb, hml, hown, hg⟩ (c_Me_mend l D cI cL a1 a2 _ K co sp h_sp) ⟨va_cnB 1 hg (gw_good m_344) rfl rfl rfl (hN _ m_341) (hg _ m_66) hd_Me_mend ⟨Nat.le_of_ble_eq_true rfl, Nat.le_of_ble_eq_true rfl⟩, hg _ m_343, hg _ m_16⟩ (pw_V hK hN hT hA hP hD hS [1, 2] rfl (by decide) (q0 := 1) (ci := 1) rfl rfl) rfl rfl hl.1 rfl (lv_room (Nat.le_of_ble_eq_true rfl)) d_V_scrub_8 ⟨Nat.le_of_ble_eq_true rfl, Nat.le_of_ble_eq_true rfl⟩) (fun H locs hP hD hS => ?_)
  have hP : va_P D classes (W_V cI cL a0 a1 a2 a3 a4 a5 a6 a7 a8 a9 a10 a11 a12 ev ((f_Me_mend K co sp).2.1) ((f_Me_mend K co sp).2.2) L1 r1 L2 r2 R vo FC FP FB fs cy sp de ca va) H := hP
  have hD : va_D A (W_V cI cL a0 a1 a2 a3 a4 a5 a6 a7 a8 a9 a10 a11 a12 ev ((f_Me_mend K co sp).2.1) ((f_Me_mend K co sp).2.2) L1 r1 L2 r2 R vo FC FP FB fs cy sp de ca va) := hD
  generalize e_t1 : f_Me_mend K co sp = t1 at hP hD ⊢
  obtain ⟨t1_0, t1_1, t1_2⟩ := t1
  have hP : va_P D classes (W_V cI cL a0 a1 a2 a3 a4 a5 a6 a7 a8 a9 a10 a11 a12 ev t1_1 t1_2 L1 r1 L2 r2 R vo FC FP FB fs cy sp de ca va) H := hP
  have hD : va_D A (W_V cI cL a0 a1 a2 a3 a4 a5 a6 a7 a8 a9 a10 a11 a12 ev t1_1 t1_2 L1 r1 L2 r2 R vo FC FP FB fs cy sp de ca va) := hD
  refine W.eq (g2 := F0 m 11 ls (.long t1_0 :: [])) rfl ?_
  refine lv_ldc2 hx hb hown (hg _ m_345) d_V_scrub_11 ?_
  refine W.lcmp hx hb d_V_scrub_14 ?_
  refine lv_if_ne (tgt := 28) hx hb d_V_scrub_15 (by decide) (fun h15 => ?_) (fun h15 => ?_)
  · refine lv_aload_n hx hb d_V_scrub_28 rfl (lv_at hl 0 rfl) ?_
    refine lv_aload_n hx hb d_V_scrub_29 rfl (lv_at hl 0 rfl) ?_
    refine va_get (ci := 0) (C := R_V) (T := F_V) (N := 11) hx hb hg in_V hown hK hP 0 rfl rfl 7 (by decide) (hg _ m_167) (fun _ h => h) rfl d_V_scrub_30 ?_
    refine lv_iconst (v := 1) hx hb d_V_scrub_33 (by decide) ?_
    refine lv_iadd hx hb d_V_scrub_34 ?_
    refine lv_bipush (v := 64) hx hb d_V_scrub_35 (by decide) ?_
    refine lv_irem hx hb d_V_scrub_37 (by decide) ?_
    refine va_put (ci := 0) (ty := .int) (C := R_V) (T := F_V) (N := 11) hx hb hg in_V t_V t_V_ok n_V hown hK hP hD hS 0 rfl rfl 7 (by decide) (hg _ m_167) (fun _ h => h) rfl (by decide +kernel) rfl rfl (Nat.le_of_ble_eq_true rfl) d_V_scrub_38 (fun H locs hP hD hS => ?_)
    have hP : va_P D classes (W_V cI cL a0 a1 a2 a3 a4 a5 a6 a7 a8 a9 a10 a11 a12 ev t1_1 t1_2 L1 r1 L2 r2 R vo FC FP FB fs cy (u_rem (sp + (1 : Int32)) (64 : Int32)) de ca va) H := hP
    have hD : va_D A (W_V cI cL a0 a1 a2 a3 a4 a5 a6 a7 a8 a9 a10 a11 a12 ev t1_1 t1_2 L1 r1 L2 r2 R vo FC FP FB fs cy (u_rem (sp + (1 : Int32)) (64 : Int32)) de ca va) := hD
    rw [f_V_scrub_e0 K co sp de (t1_0, t1_1, t1_2) e_t1 h15]
    exact W.vret hx hb hr (fun t ht hW => ⟨⟨(), rfl, trivial, by show va_P D classes _ t.heap; rw [ht]; exact hP⟩, hS.F ht⟩) hS.2.2 d_V_scrub_41 hlocks
  · refine lv_aload_n hx hb d_V_scrub_18 rfl (lv_at hl 0 rfl) ?_
    refine lv_dup hx hb d_V_scrub_19 rfl ?_
    refine va_get (ci := 0) (C := R_V) (T := F_V) (N := 11) hx hb hg in_V hown hK hP 0 rfl rfl 8 (by decide) (hg _ m_168) (fun _ h => h) rfl d_V_scrub_20 ?_
    refine lv_iconst (v := 1) hx hb d_V_scrub_23 (by decide) ?_
    refine lv_iadd hx hb d_V_scrub_24 ?_
    refine va_put (ci := 0) (ty := .int) (C := R_V) (T := F_V) (N := 11) hx hb hg in_V t_V t_V_ok n_V hown hK hP hD hS 0 rfl rfl 8 (by decide) (hg _ m_168) (fun _ h => h) rfl (by decide +kernel) rfl rfl (Nat.le_of_ble_eq_true rfl) d_V_scrub_25 (fun H locs hP hD hS => ?_)
    have hP : va_P D classes (W_V cI cL a0 a1 a2 a3 a4 a5 a6 a7 a8 a9 a10 a11 a12 ev t1_1 t1_2 L1 r1 L2 r2 R vo FC FP FB fs cy sp (de + (1 : Int32)) ca va) H := hP
    have hD : va_D A (W_V cI cL a0 a1 a2 a3 a4 a5 a6 a7 a8 a9 a10 a11 a12 ev t1_1 t1_2 L1 r1 L2 r2 R vo FC FP FB fs cy sp (de + (1 : Int32)) ca va) := hD
    refine lv_aload_n hx hb d_V_scrub_28 rfl (lv_at hl 0 rfl) ?_
    refine lv_aload_n hx hb d_V_scrub_29 rfl (lv_at hl 0 rfl) ?_
    refine va_get (ci := 0) (C := R_V) (T := F_V) (N := 11) hx hb hg in_V hown hK hP 0 rfl rfl 7 (by decide) (hg _ m_167) (fun _ h => h) rfl d_V_scrub_30 ?_
    refine lv_iconst (v := 1) hx hb d_V_scrub_33 (by decide) ?_
    refine lv_iadd hx hb d_V_scrub_34 ?_
    refine lv_bipush (v := 64) hx hb d_V_scrub_35 (by decide) ?_
    refine lv_irem hx hb d_V_scrub_37 (by decide) ?_
    refine va_put (ci := 0) (ty := .int) (C := R_V) (T := F_V) (N := 11) hx hb hg in_V t_V t_V_ok n_V hown hK hP hD hS 0 rfl rfl 7 (by decide) (hg _ m_167) (fun _ h => h) rfl (by decide +kernel) rfl rfl (Nat.le_of_ble_eq_true rfl) d_V_scrub_38 (fun H locs hP hD hS => ?_)
    have hP : va_P D classes (W_V cI cL a0 a1 a2 a3 a4 a5 a6 a7 a8 a9 a10 a11 a12 ev t1_1 t1_2 L1 r1 L2 r2 R vo FC FP FB fs cy (u_rem (sp + (1 : Int32)) (64 : Int32)) (de + (1 : Int32)) ca va) H := hP
    have hD : va_D A (W_V cI cL a0 a1 a2 a3 a4 a5 a6 a7 a8 a9 a10 a11 a12 ev t1_1 t1_2 L1 r1 L2 r2 R vo FC FP FB fs cy (u_rem (sp + (1 : Int32)) (64 : Int32)) (de + (1 : Int32)) ca va) := hD
    rw [f_V_scrub_e1 K co sp de (t1_0, t1_1, t1_2) e_t1 h15]
    exact W.vret hx hb hr (fun t ht hW => ⟨⟨(), rfl, trivial, by show va_P D classes _ t.heap; rw [ht]; exact hP⟩, hS.F ht⟩) hS.2.2 d_V_scrub_41 hlocks
