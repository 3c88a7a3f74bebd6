abbrev q_Mo_outside (D : va_G) (cI cL : ClassId) (A : Nat → Prop)  (F : Int32) : Array Value → State → Outcome → State → Prop := va_Qi (fun r (_ : Unit) => r = F) (fun _ t => va_P D classes [] t.heap) A
set_option maxHeartbeats 4000000 in
set_option maxRecDepth 100000 in
theorem c_Mo_outside (l : Launch) (D : va_G) (cI cL : ClassId) (sz : Nat)  (v : Int32) (n_ : Int32)  : Met l y_Mo_outside w_Mo_outside ({ frames := 0, cells := 0, slots := 0, locals := 0 }) (va_Pc [.int v, .int n_] (PW D cI cL [] sz)) (q_Mo_outside D cI cL (va_A [] sz)  (f_Mo_outside v n_)) 0 0 (va_A [] sz) := by
  refine mk_met (Qf := fun A => q_Mo_outside D cI cL A  (f_Mo_outside v n_)) (by decide) (Nat.le_of_ble_eq_true rfl) ?_
  intro p e s m below meth c A ls hx hb hr hlocks hml hown hg hK hN hT hA hP hD hS hnm hl
  refine lv_iload_n hx hb d_Mo_outside_0 rfl (lv_at hl 0 rfl) ?_
  refine lv_if_lt (tgt := 9) hx hb d_Mo_outside_1 (by decide) (fun h1 => ?_) (fun h1 => ?_)
  · refine lv_iconst (v := 1) hx hb d_Mo_outside_9 (by decide) ?_
    refine lv_goto (tgt := 14) hx hb d_Mo_outside_10 (by decide) ?_
    have hF : f_Mo_outside v n_ = _ := (if_pos h1)
    rw [hF]
    exact W.zret hx hb hr rfl (fun t ht hW => ⟨⟨_, (), rfl, rfl, by show va_P D classes _ t.heap; rw [ht]; exact hP⟩, hS.F ht⟩) hS.2.2 d_Mo_outside_14 hlocks
  · refine lv_iload_n hx hb d_Mo_outside_4 rfl (lv_at hl 0 rfl) ?_
    refine lv_iload_n hx hb d_Mo_outside_5 rfl (lv_at hl 1 rfl) ?_
    refine lv_icmp_le (tgt := 13) hx hb d_Mo_outside_6 (by decide) (fun h6 => ?_) (fun h6 => ?_)
    · refine lv_iconst (v := 0) hx hb d_Mo_outside_13 (by decide) ?_
      have hF : f_Mo_outside v n_ = _ := ((if_neg h1).trans (if_pos h6))
      rw [hF]
      exact W.zret hx hb hr rfl (fun t ht hW => ⟨⟨_, (), rfl, rfl, by show va_P D classes _ t.heap; rw [ht]; exact hP⟩, hS.F ht⟩) hS.2.2 d_Mo_outside_14 hlocks
    · refine lv_iconst (v := 1) hx hb d_Mo_outside_9 (by decide) ?_
      refine lv_goto (tgt := 14) hx hb d_Mo_outside_10 (by decide) ?_
      have hF : f_Mo_outside v n_ = _ := ((if_neg h1).trans (if_neg h6))
      rw [hF]
      exact W.zret hx hb hr rfl (fun t ht hW => ⟨⟨_, (), rfl, rfl, by show va_P D classes _ t.heap; rw [ht]; exact hP⟩, hS.F ht⟩) hS.2.2 d_Mo_outside_14 hlocks
abbrev q_Mo_isData (D : va_G) (cI cL : ClassId) (A : Nat → Prop)  (F : Int32) : Array Value → State → Outcome → State → Prop := va_Qi (fun r (_ : Unit) => r = F) (fun _ t => va_P D classes [] t.heap) A
set_option maxHeartbeats 4000000 in
set_option maxRecDepth 100000 in
theorem c_Mo_isData (l : Launch) (D : va_G) (cI cL : ClassId) (sz : Nat)  (k : Int32)  : Met l y_Mo_isData w_Mo_isData ({ frames := 0, cells := 0, slots := 0, locals := 0 }) (va_Pc [.int k] (PW D cI cL [] sz)) (q_Mo_isData D cI cL (va_A [] sz)  (f_Mo_isData k)) 0 0 (va_A [] sz) := by
  refine mk_met (Qf := fun A => q_Mo_isData D cI cL A  (f_Mo_isData k)) (by decide) (Nat.le_of_ble_eq_true rfl) ?_
  intro p e s m below meth c A ls hx hb hr hlocks hml hown hg hK hN hT hA hP hD hS hnm hl
  refine lv_iload_n hx hb d_Mo_isData_0 rfl (lv_at hl 0 rfl) ?_
  refine lv_iload_n hx hb d_Mo_isData_1 rfl (lv_at hl 0 rfl) ?_
  refine lv_iconst (v := 1) hx hb d_Mo_isData_2 (by decide) ?_
  refine lv_isub hx hb d_Mo_isData_3 ?_
  refine lv_iand hx hb d_Mo_isData_4 ?_
  refine lv_if_eq (tgt := 12) hx hb d_Mo_isData_5 (by decide) (fun h5 => ?_) (fun h5 => ?_)
  · refine lv_iconst (v := 0) hx hb d_Mo_isData_12 (by decide) ?_
    have hF : f_Mo_isData k = _ := (if_pos h5)
    rw [hF]
    exact W.zret hx hb hr rfl (fun t ht hW => ⟨⟨_, (), rfl, rfl, by show va_P D classes _ t.heap; rw [ht]; exact hP⟩, hS.F ht⟩) hS.2.2 d_Mo_isData_13 hlocks
  · refine lv_iconst (v := 1) hx hb d_Mo_isData_8 (by decide) ?_
    refine lv_goto (tgt := 13) hx hb d_Mo_isData_9 (by decide) ?_
    have hF : f_Mo_isData k = _ := (if_neg h5)
    rw [hF]
    exact W.zret hx hb hr rfl (fun t ht hW => ⟨⟨_, (), rfl, rfl, by show va_P D classes _ t.heap; rw [ht]; exact hP⟩, hS.F ht⟩) hS.2.2 d_Mo_isData_13 hlocks
abbrev q_Mo_syndrome (D : va_G) (cI cL : ClassId) (A : Nat → Prop)  (F : Int32) : Array Value → State → Outcome → State → Prop := va_Qi (fun r (_ : Unit) => r = F) (fun _ t => va_P D classes [] t.heap) A
set_option maxHeartbeats 4000000 in
set_option maxRecDepth 100000 in
theorem c_Mo_syndrome (l : Launch) (D : va_G) (cI cL : ClassId) (sz : Nat)  (x : Int64)  : Met l y_Mo_syndrome w_Mo_syndrome ({ frames := 0, cells := 0, slots := 0, locals := 0 }) (va_Pc [.long x] (PW D cI cL [] sz)) (q_Mo_syndrome D cI cL (va_A [] sz)  (f_Mo_syndrome x)) 0 0 (va_A [] sz) := by
  refine mk_met (Qf := fun A => q_Mo_syndrome D cI cL A  (f_Mo_syndrome x)) (by decide) (Nat.le_of_ble_eq_true rfl) ?_
  intro p e s m below meth c A ls hx hb hr hlocks hml hown hg hK hN hT hA hP hD hS hnm hl
  refine lv_iconst (v := 0) hx hb d_Mo_syndrome_0 (by decide) ?_
  refine lv_istore_n (lv' := [(2, .int _), (0, .long _)]) hx hb d_Mo_syndrome_1 rfl hl (by decide) rfl (fun ls hl => ?_)
  refine lv_iconst (v := 1) hx hb d_Mo_syndrome_2 (by decide) ?_
  refine lv_istore_n (lv' := [(3, .int _), (2, .int _), (0, .long _)]) hx hb d_Mo_syndrome_3 rfl hl (by decide) rfl (fun ls hl => ?_)
  have loop : ∀ (n j : Nat) (sy : Int32) (ls : Array Slot) (H : Heap) (locs : List Loc), j + n = 39 → lv_has ls 4 [(3, .int (nI j)), (2, .int sy), (0, .long x)] → va_P D classes [] H → va_D A [] → va_S A s.heap H locs → W p l e ({ frames := 0, cells := 0, slots := 0, locals := 0 } : Room) s m ([.long x] : List Value).toArray below meth c H locs 0 0 (MQ below (q_Mo_syndrome D cI cL A  (f_Mo_syndrome_l4 x n j sy)) ([.long x] : List Value).toArray s 0 0 A) (F0 m 4 ls []) := by
    intro n
    induction n with
    | zero =>
      intro j sy ls H locs hj  hl hP hD hS
      refine lv_iload_n hx hb d_Mo_syndrome_4 rfl (lv_at hl 0 rfl) ?_
      refine lv_bipush (v := 39) hx hb d_Mo_syndrome_5 (by decide) ?_
      refine lv_icmp_ge (tgt := 34) hx hb d_Mo_syndrome_7 (by decide) (fun _ => ?_) (fun h => absurd (show nI 39 ≤ nI j from nI_le (by omega) (by omega)) h)
      refine lv_iload_n hx hb d_Mo_syndrome_34 rfl (lv_at hl 1 rfl) ?_
      exact W.iret hx hb hr (fun t ht hW => ⟨⟨_, (), rfl, rfl, by show va_P D classes _ t.heap; rw [ht]; exact hP⟩, hS.F ht⟩) hS.2.2 d_Mo_syndrome_35 hlocks
    | succ n ih =>
      intro j sy ls H locs hj  hl hP hD hS
      refine lv_iload_n hx hb d_Mo_syndrome_4 rfl (lv_at hl 0 rfl) ?_
      refine lv_bipush (v := 39) hx hb d_Mo_syndrome_5 (by decide) ?_
      refine lv_icmp_ge (tgt := 34) hx hb d_Mo_syndrome_7 (by decide) (fun h => absurd h (show ¬ nI 39 ≤ nI j from nI_ge (by omega) (by decide))) (fun _ => ?_)
      refine lv_lload_n hx hb d_Mo_syndrome_10 rfl (lv_at hl 2 rfl) ?_
      refine lv_iload_n hx hb d_Mo_syndrome_11 rfl (lv_at hl 0 rfl) ?_
      refine lv_lshr (v := u_lshr _ _) hx hb d_Mo_syndrome_12 rfl ?_
      refine lv_lconst (v := 1) hx hb d_Mo_syndrome_13 (by decide) ?_
      refine lv_land hx hb d_Mo_syndrome_14 ?_
      refine lv_lconst (v := 1) hx hb d_Mo_syndrome_15 (by decide) ?_
      refine W.lcmp hx hb d_Mo_syndrome_16 ?_
      refine lv_if_ne (tgt := 26) hx hb d_Mo_syndrome_17 (by decide) (fun h17 => ?_) (fun h17 => ?_)
      · refine lv_iload_n hx hb d_Mo_syndrome_26 rfl (lv_at hl 1 rfl) ?_
        refine lv_istore_n (lv' := [(2, .int _), (3, .int _), (0, .long _)]) hx hb d_Mo_syndrome_27 rfl hl (by decide) rfl (fun ls hl => ?_)
        refine lv_iinc (k := 1) (v := nI (_ + 1)) (lv' := [(3, .int _), (2, .int _), (0, .long _)]) hx hb d_Mo_syndrome_28 hl rfl (nI_1 _) (by decide) rfl (fun ls hl => ?_)
        refine lv_goto (tgt := 4) hx hb d_Mo_syndrome_31 (by decide) ?_
        have hF : f_Mo_syndrome_l4 x (n + 1) j sy = _ := (if_neg h17)
        rw [hF]
        exact ih (j + 1) _ _ _ _ (by omega)  (lv_sub hl [0, 1, 2] rfl) hP hD hS
      · refine lv_iload_n hx hb d_Mo_syndrome_20 rfl (lv_at hl 1 rfl) ?_
        refine lv_iload_n hx hb d_Mo_syndrome_21 rfl (lv_at hl 0 rfl) ?_
        refine lv_ixor hx hb d_Mo_syndrome_22 ?_
        refine lv_goto (tgt := 27) hx hb d_Mo_syndrome_23 (by decide) ?_
        refine lv_istore_n (lv' := [(2, .int _), (3, .int _), (0, .long _)]) hx hb d_Mo_syndrome_27 rfl hl (by decide) rfl (fun ls hl => ?_)
        refine lv_iinc (k := 1) (v := nI (_ + 1)) (lv' := [(3, .int _), (2, .int _), (0, .long _)]) hx hb d_Mo_syndrome_28 hl rfl (nI_1 _) (by decide) rfl (fun ls hl => ?_)
        refine lv_goto (tgt := 4) hx hb d_Mo_syndrome_31 (by decide) ?_
        have hF : f_Mo_syndrome_l4 x (n + 1) j sy = _ := (if_pos h17)
        rw [hF]
        exact ih (j + 1) _ _ _ _ (by omega)  (lv_sub hl [0, 1, 2] rfl) hP hD hS
  exact loop 38 1 _ _ _ _ (by omega)  hl hP hD hS
abbrev q_Mo_isOdd (D : va_G) (cI cL : ClassId) (A : Nat → Prop)  (F : Int32) : Array Value → State → Outcome → State → Prop := va_Qi (fun r (_ : Unit) => r = F) (fun _ t => va_P D classes [] t.heap) A
set_option maxHeartbeats 4000000 in
set_option maxRecDepth 100000 in
theorem c_Mo_isOdd (l : Launch) (D : va_G) (cI cL : ClassId) (sz : Nat)  (x : Int64)  : Met l y_Mo_isOdd w_Mo_isOdd ({ frames := 0, cells := 0, slots := 0, locals := 0 }) (va_Pc [.long x] (PW D cI cL [] sz)) (q_Mo_isOdd D cI cL (va_A [] sz)  (f_Mo_isOdd x)) 0 0 (va_A [] sz) := by
  refine mk_met (Qf := fun A => q_Mo_isOdd D cI cL A  (f_Mo_isOdd x)) (by decide) (Nat.le_of_ble_eq_true rfl) ?_
  intro p e s m below meth c A ls hx hb hr hlocks hml hown hg hK hN hT hA hP hD hS hnm hl
  refine lv_iconst (v := 0) hx hb d_Mo_isOdd_0 (by decide) ?_
  refine lv_istore_n (lv' := [(2, .int _), (0, .long _)]) hx hb d_Mo_isOdd_1 rfl hl (by decide) rfl (fun ls hl => ?_)
  refine lv_iconst (v := 0) hx hb d_Mo_isOdd_2 (by decide) ?_
  refine lv_istore_n (lv' := [(3, .int _), (2, .int _), (0, .long _)]) hx hb d_Mo_isOdd_3 rfl hl (by decide) rfl (fun ls hl => ?_)
  have loop : ∀ (n j : Nat) (o : Int32) (ls : Array Slot) (H : Heap) (locs : List Loc), j + n = 39 → (o = 0 ∨ o = 1) → lv_has ls 4 [(3, .int (nI j)), (2, .int o), (0, .long x)] → va_P D classes [] H → va_D A [] → va_S A s.heap H locs → W p l e ({ frames := 0, cells := 0, slots := 0, locals := 0 } : Room) s m ([.long x] : List Value).toArray below meth c H locs 0 0 (MQ below (q_Mo_isOdd D cI cL A  (f_Mo_isOdd_l4 x n j o)) ([.long x] : List Value).toArray s 0 0 A) (F0 m 4 ls []) := by
    intro n
    induction n with
    | zero =>
      intro j o ls H locs hj ho hl hP hD hS
      refine lv_iload_n hx hb d_Mo_isOdd_4 rfl (lv_at hl 0 rfl) ?_
      refine lv_bipush (v := 39) hx hb d_Mo_isOdd_5 (by decide) ?_
      refine lv_icmp_ge (tgt := 41) hx hb d_Mo_isOdd_7 (by decide) (fun _ => ?_) (fun h => absurd (show nI 39 ≤ nI j from nI_le (by omega) (by omega)) h)
      refine lv_iload_n hx hb d_Mo_isOdd_41 rfl (lv_at hl 1 rfl) ?_
      exact W.zret hx hb hr (by rcases ho with rfl | rfl <;> rfl) (fun t ht hW => ⟨⟨_, (), rfl, rfl, by show va_P D classes _ t.heap; rw [ht]; exact hP⟩, hS.F ht⟩) hS.2.2 d_Mo_isOdd_42 hlocks
    | succ n ih =>
      intro j o ls H locs hj ho hl hP hD hS
      refine lv_iload_n hx hb d_Mo_isOdd_4 rfl (lv_at hl 0 rfl) ?_
      refine lv_bipush (v := 39) hx hb d_Mo_isOdd_5 (by decide) ?_
      refine lv_icmp_ge (tgt := 41) hx hb d_Mo_isOdd_7 (by decide) (fun h => absurd h (show ¬ nI 39 ≤ nI j from nI_ge (by omega) (by decide))) (fun _ => ?_)
      refine lv_iload_n hx hb d_Mo_isOdd_10 rfl (lv_at hl 1 rfl) ?_
      refine lv_lload_n hx hb d_Mo_isOdd_11 rfl (lv_at hl 2 rfl) ?_
      refine lv_iload_n hx hb d_Mo_isOdd_12 rfl (lv_at hl 0 rfl) ?_
      refine lv_lshr (v := u_lshr _ _) hx hb d_Mo_isOdd_13 rfl ?_
      refine lv_lconst (v := 1) hx hb d_Mo_isOdd_14 (by decide) ?_
      refine lv_land hx hb d_Mo_isOdd_15 ?_
      refine lv_lconst (v := 1) hx hb d_Mo_isOdd_16 (by decide) ?_
      refine W.lcmp hx hb d_Mo_isOdd_17 ?_
      refine lv_if_ne (tgt := 25) hx hb d_Mo_isOdd_18 (by decide) (fun h18 => ?_) (fun h18 => ?_)
      · refine lv_iconst (v := 0) hx hb d_Mo_isOdd_25 (by decide) ?_
        refine lv_icmp_eq (tgt := 33) hx hb d_Mo_isOdd_26 (by decide) (fun h26 => ?_) (fun h26 => ?_)
        · refine lv_iconst (v := 0) hx hb d_Mo_isOdd_33 (by decide) ?_
          refine lv_istore_n (lv' := [(2, .int _), (3, .int _), (0, .long _)]) hx hb d_Mo_isOdd_34 rfl hl (by decide) rfl (fun ls hl => ?_)
          refine lv_iinc (k := 1) (v := nI (_ + 1)) (lv' := [(3, .int _), (2, .int _), (0, .long _)]) hx hb d_Mo_isOdd_35 hl rfl (nI_1 _) (by decide) rfl (fun ls hl => ?_)
          refine lv_goto (tgt := 4) hx hb d_Mo_isOdd_38 (by decide) ?_
          have hF : f_Mo_isOdd_l4 x (n + 1) j o = _ := ((if_neg h18).trans (if_pos h26))
          rw [hF]
          exact ih (j + 1) _ _ _ _ (by omega) (by first | exact Or.inl rfl | exact Or.inr rfl) (lv_sub hl [0, 1, 2] rfl) hP hD hS
        · refine lv_iconst (v := 1) hx hb d_Mo_isOdd_29 (by decide) ?_
          refine lv_goto (tgt := 34) hx hb d_Mo_isOdd_30 (by decide) ?_
          refine lv_istore_n (lv' := [(2, .int _), (3, .int _), (0, .long _)]) hx hb d_Mo_isOdd_34 rfl hl (by decide) rfl (fun ls hl => ?_)
          refine lv_iinc (k := 1) (v := nI (_ + 1)) (lv' := [(3, .int _), (2, .int _), (0, .long _)]) hx hb d_Mo_isOdd_35 hl rfl (nI_1 _) (by decide) rfl (fun ls hl => ?_)
          refine lv_goto (tgt := 4) hx hb d_Mo_isOdd_38 (by decide) ?_
          have hF : f_Mo_isOdd_l4 x (n + 1) j o = _ := ((if_neg h18).trans (if_neg h26))
          rw [hF]
          exact ih (j + 1) _ _ _ _ (by omega) (by first | exact Or.inl rfl | exact Or.inr rfl) (lv_sub hl [0, 1, 2] rfl) hP hD hS
      · refine lv_iconst (v := 1) hx hb d_Mo_isOdd_21 (by decide) ?_
        refine lv_goto (tgt := 26) hx hb d_Mo_isOdd_22 (by decide) ?_
        refine lv_icmp_eq (tgt := 33) hx hb d_Mo_isOdd_26 (by decide) (fun h26 => ?_) (fun h26 => ?_)
        · refine lv_iconst (v := 0) hx hb d_Mo_isOdd_33 (by decide) ?_
          refine lv_istore_n (lv' := [(2, .int _), (3, .int _), (0, .long _)]) hx hb d_Mo_isOdd_34 rfl hl (by decide) rfl (fun ls hl => ?_)
          refine lv_iinc (k := 1) (v := nI (_ + 1)) (lv' := [(3, .int _), (2, .int _), (0, .long _)]) hx hb d_Mo_isOdd_35 hl rfl (nI_1 _) (by decide) rfl (fun ls hl => ?_)
          refine lv_goto (tgt := 4) hx hb d_Mo_isOdd_38 (by decide) ?_
          have hF : f_Mo_isOdd_l4 x (n + 1) j o = _ := ((if_pos h18).trans (if_pos h26))
          rw [hF]
          exact ih (j + 1) _ _ _ _ (by omega) (by first | exact Or.inl rfl | exact Or.inr rfl) (lv_sub hl [0, 1, 2] rfl) hP hD hS
        · refine lv_iconst (v := 1) hx hb d_Mo_isOdd_29 (by decide) ?_
          refine lv_goto (tgt := 34) hx hb d_Mo_isOdd_30 (by decide) ?_
          refine lv_istore_n (lv' := [(2, .int _), (3, .int _), (0, .long _)]) hx hb d_Mo_isOdd_34 rfl hl (by decide) rfl (fun ls hl => ?_)
          refine lv_iinc (k := 1) (v := nI (_ + 1)) (lv' := [(3, .int _), (2, .int _), (0, .long _)]) hx hb d_Mo_isOdd_35 hl rfl (nI_1 _) (by decide) rfl (fun ls hl => ?_)
          refine lv_goto (tgt := 4) hx hb d_Mo_isOdd_38 (by decide) ?_
          have hF : f_Mo_isOdd_l4 x (n + 1) j o = _ := ((if_pos h18).trans (if_neg h26))
          rw [hF]
          exact ih (j + 1) _ _ _ _ (by omega) (by first | exact Or.inl rfl | exact Or.inr rfl) (lv_sub hl [0, 1, 2] rfl) hP hD hS
  exact loop 39 0 _ _ _ _ (by omega) (Or.inl rfl) hl hP hD hS
abbrev q_Mo_dataOf (D : va_G) (cI cL : ClassId) (A : Nat → Prop)  (F : Int32) : Array Value → State → Outcome → State → Prop := va_Qi (fun r (_ : Unit) => r = F) (fun _ t => va_P D classes [] t.heap) A
set_option maxHeartbeats 4000000 in
set_option maxRecDepth 100000 in
theorem c_Mo_dataOf (l : Launch) (D : va_G) (cI cL : ClassId) (sz : Nat)  (x : Int64)  : Met l y_Mo_dataOf w_Mo_dataOf ({ frames := 1, cells := 0, slots := 0, locals := 20 }) (va_Pc [.long x] (PW D cI cL [] sz)) (q_Mo_dataOf D cI cL (va_A [] sz)  (f_Mo_dataOf x)) 0 0 (va_A [] sz) := by
  refine mk_met (Qf := fun A => q_Mo_dataOf D cI cL A  (f_Mo_dataOf x)) (by decide) (Nat.le_of_ble_eq_true rfl) ?_
  intro p e s m below meth c A ls hx hb hr hlocks hml hown hg hK hN hT hA hP hD hS hnm hl
  refine lv_iconst (v := 0) hx hb d_Mo_dataOf_0 (by decide) ?_
  refine lv_istore_n (lv' := [(2, .int _), (0, .long _)]) hx hb d_Mo_dataOf_1 rfl hl (by decide) rfl (fun ls hl => ?_)
  refine lv_iconst (v := 0) hx hb d_Mo_dataOf_2 (by decide) ?_
  refine lv_istore_n (lv' := [(3, .int _), (2, .int _), (0, .long _)]) hx hb d_Mo_dataOf_3 rfl hl (by decide) rfl (fun ls hl => ?_)
  refine lv_iconst (v := 3) hx hb d_Mo_dataOf_4 (by decide) ?_
  refine lv_istore (lv' := [(4, .int _), (3, .int _), (2, .int _), (0, .long _)]) hx hb d_Mo_dataOf_5 hl (by decide) rfl (fun ls hl => ?_)
  have loop : ∀ (n j : Nat) (v_ : Int32) (i_ : Int32) (ls : Array Slot) (H : Heap) (locs : List Loc), j + n = 39 → lv_has ls 5 [(4, .int (nI j)), (3, .int i_), (2, .int v_), (0, .long x)] → va_P D classes [] H → va_D A [] → va_S A s.heap H locs → W p l e ({ frames := 1, cells := 0, slots := 0, locals := 20 } : Room) s m ([.long x] : List Value).toArray below meth c H locs 0 0 (MQ below (q_Mo_dataOf D cI cL A  (f_Mo_dataOf_l7 x n j v_ i_)) ([.long x] : List Value).toArray s 0 0 A) (F0 m 7 ls []) := by
    intro n
    induction n with
    | zero =>
      intro j v_ i_ ls H locs hj  hl hP hD hS
      refine lv_iload hx hb d_Mo_dataOf_7 (lv_at hl 0 rfl) ?_
      refine lv_bipush (v := 39) hx hb d_Mo_dataOf_9 (by decide) ?_
      refine lv_icmp_ge (tgt := 52) hx hb d_Mo_dataOf_11 (by decide) (fun _ => ?_) (fun h => absurd (show nI 39 ≤ nI j from nI_le (by omega) (by omega)) h)
      refine lv_iload_n hx hb d_Mo_dataOf_52 rfl (lv_at hl 2 rfl) ?_
      exact W.iret hx hb hr (fun t ht hW => ⟨⟨_, (), rfl, rfl, by show va_P D classes _ t.heap; rw [ht]; exact hP⟩, hS.F ht⟩) hS.2.2 d_Mo_dataOf_53 hlocks
    | succ n ih =>
      intro j v_ i_ ls H locs hj  hl hP hD hS
      refine lv_iload hx hb d_Mo_dataOf_7 (lv_at hl 0 rfl) ?_
      refine lv_bipush (v := 39) hx hb d_Mo_dataOf_9 (by decide) ?_
      refine lv_icmp_ge (tgt := 52) hx hb d_Mo_dataOf_11 (by decide) (fun h => absurd h (show ¬ nI 39 ≤ nI j from nI_ge (by omega) (by decide))) (fun _ => ?_)
      refine lv_iload hx hb d_Mo_dataOf_14 (lv_at hl 0 rfl) ?_
      refine cj_i (wc := []) (w1 := []) hP hD hS hA [] rfl rfl (va_runS (rest := []) ⟨hx, hb, hml, hown, hg⟩ (c_Mo_isData l D cI cL  _ (nI j)) ⟨callB_of 1 hg (gw_good m_623) rfl rfl rfl (hg _ m_71) (hg _ m_621) hd_Mo_isData ⟨Nat.le_of_ble_eq_true rfl, Nat.le_of_ble_eq_true rfl⟩, hg _ m_622⟩ (pw_S hK hN hT hA hP hD hS [] rfl (by decide)) rfl rfl hl.1 rfl (lv_room (Nat.le_of_ble_eq_true rfl)) d_Mo_dataOf_16 ⟨Nat.le_of_ble_eq_true rfl, Nat.le_of_ble_eq_true rfl⟩) (fun H locs hP hD hS => ?_)
      have hP : va_P D classes [] H := hP
      have hD : va_D A [] := hD
      refine lv_if_eq (tgt := 46) hx hb d_Mo_dataOf_19 (by decide) (fun h19 => ?_) (fun h19 => ?_)
      · refine lv_iinc (k := 0) (v := nI (_ + 1)) (lv' := [(4, .int _), (3, .int _), (2, .int _), (0, .long _)]) hx hb d_Mo_dataOf_46 hl rfl (nI_1 _) (by decide) rfl (fun ls hl => ?_)
        refine lv_goto (tgt := 7) hx hb d_Mo_dataOf_49 (by decide) ?_
        have hF : f_Mo_dataOf_l7 x (n + 1) j v_ i_ = _ := (if_pos h19)
        rw [hF]
        exact ih (j + 1) _ _ _ _ _ (by omega)  (lv_sub hl [0, 1, 2, 3] rfl) hP hD hS
      · refine lv_lload_n hx hb d_Mo_dataOf_22 rfl (lv_at hl 3 rfl) ?_
        refine lv_iload hx hb d_Mo_dataOf_23 (lv_at hl 0 rfl) ?_
        refine lv_lshr (v := u_lshr _ _) hx hb d_Mo_dataOf_25 rfl ?_
        refine lv_lconst (v := 1) hx hb d_Mo_dataOf_26 (by decide) ?_
        refine lv_land hx hb d_Mo_dataOf_27 ?_
        refine lv_lconst (v := 1) hx hb d_Mo_dataOf_28 (by decide) ?_
        refine W.lcmp hx hb d_Mo_dataOf_29 ?_
        refine lv_if_ne (tgt := 41) hx hb d_Mo_dataOf_30 (by decide) (fun h30 => ?_) (fun h30 => ?_)
        · refine lv_iload_n hx hb d_Mo_dataOf_41 rfl (lv_at hl 2 rfl) ?_
          refine lv_istore_n (lv' := [(2, .int _), (4, .int _), (3, .int _), (0, .long _)]) hx hb d_Mo_dataOf_42 rfl hl (by decide) rfl (fun ls hl => ?_)
          refine lv_iinc (k := 2) (v := _ + 1) (lv' := [(3, .int _), (2, .int _), (4, .int _), (0, .long _)]) hx hb d_Mo_dataOf_43 hl rfl rfl (by decide) rfl (fun ls hl => ?_)
          refine lv_iinc (k := 2) (v := nI (_ + 1)) (lv' := [(4, .int _), (3, .int _), (2, .int _), (0, .long _)]) hx hb d_Mo_dataOf_46 hl rfl (nI_1 _) (by decide) rfl (fun ls hl => ?_)
          refine lv_goto (tgt := 7) hx hb d_Mo_dataOf_49 (by decide) ?_
          have hF : f_Mo_dataOf_l7 x (n + 1) j v_ i_ = _ := ((if_neg h19).trans (if_neg h30))
          rw [hF]
          exact ih (j + 1) _ _ _ _ _ (by omega)  (lv_sub hl [0, 1, 2, 3] rfl) hP hD hS
        · refine lv_iload_n hx hb d_Mo_dataOf_33 rfl (lv_at hl 2 rfl) ?_
          refine lv_iconst (v := 1) hx hb d_Mo_dataOf_34 (by decide) ?_
          refine lv_iload_n hx hb d_Mo_dataOf_35 rfl (lv_at hl 1 rfl) ?_
          refine lv_ishl hx hb d_Mo_dataOf_36 ?_
          refine lv_ior hx hb d_Mo_dataOf_37 ?_
          refine lv_goto (tgt := 42) hx hb d_Mo_dataOf_38 (by decide) ?_
          refine lv_istore_n (lv' := [(2, .int _), (4, .int _), (3, .int _), (0, .long _)]) hx hb d_Mo_dataOf_42 rfl hl (by decide) rfl (fun ls hl => ?_)
          refine lv_iinc (k := 2) (v := _ + 1) (lv' := [(3, .int _), (2, .int _), (4, .int _), (0, .long _)]) hx hb d_Mo_dataOf_43 hl rfl rfl (by decide) rfl (fun ls hl => ?_)
          refine lv_iinc (k := 2) (v := nI (_ + 1)) (lv' := [(4, .int _), (3, .int _), (2, .int _), (0, .long _)]) hx hb d_Mo_dataOf_46 hl rfl (nI_1 _) (by decide) rfl (fun ls hl => ?_)
          refine lv_goto (tgt := 7) hx hb d_Mo_dataOf_49 (by decide) ?_
          have hF : f_Mo_dataOf_l7 x (n + 1) j v_ i_ = _ := ((if_neg h19).trans (if_pos h30))
          rw [hF]
          exact ih (j + 1) _ _ _ _ _ (by omega)  (lv_sub hl [0, 1, 2, 3] rfl) hP hD hS
  exact loop 36 3 _ _ _ _ _ (by omega)  hl hP hD hS
abbrev q_Mo_encoded (D : va_G) (cI cL : ClassId) (A : Nat → Prop)  (F : Int64) : Array Value → State → Outcome → State → Prop := va_Ql (fun r (_ : Unit) => r = F) (fun _ t => va_P D classes [] t.heap) A
set_option maxHeartbeats 4000000 in
set_option maxRecDepth 100000 in
theorem c_Mo_encoded (l : Launch) (D : va_G) (cI cL : ClassId) (sz : Nat)  (v : Int32)  : Met l y_Mo_encoded w_Mo_encoded ({ frames := 1, cells := 0, slots := 0, locals := 23 }) (va_Pc [.int v] (PW D cI cL [] sz)) (q_Mo_encoded D cI cL (va_A [] sz)  (f_Mo_encoded v)) 0 0 (va_A [] sz) := by
  refine mk_met (Qf := fun A => q_Mo_encoded D cI cL A  (f_Mo_encoded v)) (by decide) (Nat.le_of_ble_eq_true rfl) ?_
  intro p e s m below meth c A ls hx hb hr hlocks hml hown hg hK hN hT hA hP hD hS hnm hl
  refine lv_lconst (v := 0) hx hb d_Mo_encoded_0 (by decide) ?_
  refine lv_lstore_n (lv' := [(1, .long _), (0, .int _)]) hx hb d_Mo_encoded_1 rfl hl (by decide) rfl (fun ls hl => ?_)
  refine lv_iconst (v := 0) hx hb d_Mo_encoded_2 (by decide) ?_
  refine lv_istore_n (lv' := [(3, .int _), (1, .long _), (0, .int _)]) hx hb d_Mo_encoded_3 rfl hl (by decide) rfl (fun ls hl => ?_)
  refine lv_iconst (v := 3) hx hb d_Mo_encoded_4 (by decide) ?_
  refine lv_istore (lv' := [(4, .int _), (3, .int _), (1, .long _), (0, .int _)]) hx hb d_Mo_encoded_5 hl (by decide) rfl (fun ls hl => ?_)
  have loop : ∀ (n j : Nat) (b_ : Int64) (i_ : Int32) (ls : Array Slot) (H : Heap) (locs : List Loc), j + n = 39 → lv_has ls 6 [(4, .int (nI j)), (3, .int i_), (1, .long b_), (0, .int v)] → va_P D classes [] H → va_D A [] → va_S A s.heap H locs → W p l e ({ frames := 1, cells := 0, slots := 0, locals := 23 } : Room) s m ([.int v] : List Value).toArray below meth c H locs 0 0 (MQ below (q_Mo_encoded D cI cL A  (f_Mo_encoded_l7 v n j b_ i_)) ([.int v] : List Value).toArray s 0 0 A) (F0 m 7 ls []) := by
    intro n
    induction n with
    | zero =>
      intro j b_ i_ ls H locs hj  hl hP hD hS
      refine lv_iload hx hb d_Mo_encoded_7 (lv_at hl 0 rfl) ?_
      refine lv_bipush (v := 39) hx hb d_Mo_encoded_9 (by decide) ?_
      refine lv_icmp_ge (tgt := 51) hx hb d_Mo_encoded_11 (by decide) (fun _ => ?_) (fun h => absurd (show nI 39 ≤ nI j from nI_le (by omega) (by omega)) h)
      refine lv_lload_n hx hb d_Mo_encoded_51 rfl (lv_at hl 2 rfl) ?_
      refine cj_i (wc := []) (w1 := []) hP hD hS hA [] rfl rfl (va_runS (rest := []) ⟨hx, hb, hml, hown, hg⟩ (c_Mo_syndrome l D cI cL  _ b_) ⟨callB_of 1 hg (gw_good m_617) rfl rfl rfl (hg _ m_71) (hg _ m_615) hd_Mo_syndrome ⟨Nat.le_of_ble_eq_true rfl, Nat.le_of_ble_eq_true rfl⟩, hg _ m_616⟩ (pw_S hK hN hT hA hP hD hS [] rfl (by decide)) rfl rfl hl.1 rfl (lv_room (Nat.le_of_ble_eq_true rfl)) d_Mo_encoded_52 ⟨Nat.le_of_ble_eq_true rfl, Nat.le_of_ble_eq_true rfl⟩) (fun H locs hP hD hS => ?_)
      have hP : va_P D classes [] H := hP
      have hD : va_D A [] := hD
      refine lv_istore (lv' := [(4, .int _), (3, .int _), (1, .long _), (0, .int _)]) hx hb d_Mo_encoded_55 hl (by decide) rfl (fun ls hl => ?_)
      refine lv_iconst (v := 0) hx hb d_Mo_encoded_57 (by decide) ?_
      refine lv_istore (lv' := [(5, .int _), (4, .int _), (3, .int _), (1, .long _), (0, .int _)]) hx hb d_Mo_encoded_58 hl (by decide) rfl (fun ls hl => ?_)
      have loop : ∀ (n j2 : Nat) (b2 : Int64) (sy : Int32) (ls : Array Slot) (H : Heap) (locs : List Loc), j2 + n = 6 → lv_has ls 6 [(5, .int (nI j2)), (4, .int sy), (3, .int i_), (1, .long b2), (0, .int v)] → va_P D classes [] H → va_D A [] → va_S A s.heap H locs → W p l e ({ frames := 1, cells := 0, slots := 0, locals := 23 } : Room) s m ([.int v] : List Value).toArray below meth c H locs 0 0 (MQ below (q_Mo_encoded D cI cL A  (f_Mo_encoded_l60  n j2 b2 sy)) ([.int v] : List Value).toArray s 0 0 A) (F0 m 60 ls []) := by
        intro n
        induction n with
        | zero =>
          intro j2 b2 sy ls H locs hj  hl hP hD hS
          refine lv_iload hx hb d_Mo_encoded_60 (lv_at hl 0 rfl) ?_
          refine lv_bipush (v := 6) hx hb d_Mo_encoded_62 (by decide) ?_
          refine lv_icmp_ge (tgt := 97) hx hb d_Mo_encoded_64 (by decide) (fun _ => ?_) (fun h => absurd (show nI 6 ≤ nI j2 from nI_le (by omega) (by omega)) h)
          refine lv_lload_n hx hb d_Mo_encoded_97 rfl (lv_at hl 3 rfl) ?_
          refine cj_i (wc := []) (w1 := []) hP hD hS hA [] rfl rfl (va_runS (rest := []) ⟨hx, hb, hml, hown, hg⟩ (c_Mo_isOdd l D cI cL  _ b2) ⟨callB_of 1 hg (gw_good m_606) rfl rfl rfl (hg _ m_71) (hg _ m_604) hd_Mo_isOdd ⟨Nat.le_of_ble_eq_true rfl, Nat.le_of_ble_eq_true rfl⟩, hg _ m_605⟩ (pw_S hK hN hT hA hP hD hS [] rfl (by decide)) rfl rfl hl.1 rfl (lv_room (Nat.le_of_ble_eq_true rfl)) d_Mo_encoded_98 ⟨Nat.le_of_ble_eq_true rfl, Nat.le_of_ble_eq_true rfl⟩) (fun H locs hP hD hS => ?_)
          have hP : va_P D classes [] H := hP
          have hD : va_D A [] := hD
          refine lv_if_eq (tgt := 110) hx hb d_Mo_encoded_101 (by decide) (fun h101 => ?_) (fun h101 => ?_)
          · refine lv_lload_n hx hb d_Mo_encoded_110 rfl (lv_at hl 3 rfl) ?_
            have hF : f_Mo_encoded_l60  0 j2 b2 sy = _ := (if_pos h101)
            rw [hF]
            exact W.lret hx hb hr (fun t ht hW => ⟨⟨_, (), rfl, rfl, by show va_P D classes _ t.heap; rw [ht]; exact hP⟩, hS.F ht⟩) hS.2.2 d_Mo_encoded_111 hlocks
          · refine lv_lload_n hx hb d_Mo_encoded_104 rfl (lv_at hl 3 rfl) ?_
            refine lv_lconst (v := 1) hx hb d_Mo_encoded_105 (by decide) ?_
            refine lv_lor hx hb d_Mo_encoded_106 ?_
            refine lv_goto (tgt := 111) hx hb d_Mo_encoded_107 (by decide) ?_
            have hF : f_Mo_encoded_l60  0 j2 b2 sy = _ := (if_neg h101)
            rw [hF]
            exact W.lret hx hb hr (fun t ht hW => ⟨⟨_, (), rfl, rfl, by show va_P D classes _ t.heap; rw [ht]; exact hP⟩, hS.F ht⟩) hS.2.2 d_Mo_encoded_111 hlocks
        | succ n ih =>
          intro j2 b2 sy ls H locs hj  hl hP hD hS
          refine lv_iload hx hb d_Mo_encoded_60 (lv_at hl 0 rfl) ?_
          refine lv_bipush (v := 6) hx hb d_Mo_encoded_62 (by decide) ?_
          refine lv_icmp_ge (tgt := 97) hx hb d_Mo_encoded_64 (by decide) (fun h => absurd h (show ¬ nI 6 ≤ nI j2 from nI_ge (by omega) (by decide))) (fun _ => ?_)
          refine lv_iload hx hb d_Mo_encoded_67 (lv_at hl 1 rfl) ?_
          refine lv_iload hx hb d_Mo_encoded_69 (lv_at hl 0 rfl) ?_
          refine lv_ishr hx hb d_Mo_encoded_71 ?_
          refine lv_iconst (v := 1) hx hb d_Mo_encoded_72 (by decide) ?_
          refine lv_iand hx hb d_Mo_encoded_73 ?_
          refine lv_iconst (v := 1) hx hb d_Mo_encoded_74 (by decide) ?_
          refine lv_icmp_ne (tgt := 89) hx hb d_Mo_encoded_75 (by decide) (fun h75 => ?_) (fun h75 => ?_)
          · refine lv_lload_n hx hb d_Mo_encoded_89 rfl (lv_at hl 3 rfl) ?_
            refine lv_lstore_n (lv' := [(1, .long _), (5, .int _), (4, .int _), (3, .int _), (0, .int _)]) hx hb d_Mo_encoded_90 rfl hl (by decide) rfl (fun ls hl => ?_)
            refine lv_iinc (k := 1) (v := nI (_ + 1)) (lv' := [(5, .int _), (1, .long _), (4, .int _), (3, .int _), (0, .int _)]) hx hb d_Mo_encoded_91 hl rfl (nI_1 _) (by decide) rfl (fun ls hl => ?_)
            refine lv_goto (tgt := 60) hx hb d_Mo_encoded_94 (by decide) ?_
            have hF : f_Mo_encoded_l60  (n + 1) j2 b2 sy = _ := (if_neg h75)
            rw [hF]
            exact ih (j2 + 1) _ _ _ _ _ (by omega)  (lv_sub hl [0, 2, 3, 1, 4] rfl) hP hD hS
          · refine lv_lload_n hx hb d_Mo_encoded_78 rfl (lv_at hl 3 rfl) ?_
            refine lv_lconst (v := 1) hx hb d_Mo_encoded_79 (by decide) ?_
            refine lv_iconst (v := 1) hx hb d_Mo_encoded_80 (by decide) ?_
            refine lv_iload hx hb d_Mo_encoded_81 (lv_at hl 0 rfl) ?_
            refine lv_ishl hx hb d_Mo_encoded_83 ?_
            refine lv_lshl (v := u_lshl _ _) hx hb d_Mo_encoded_84 rfl ?_
            refine lv_lor hx hb d_Mo_encoded_85 ?_
            refine lv_goto (tgt := 90) hx hb d_Mo_encoded_86 (by decide) ?_
            refine lv_lstore_n (lv' := [(1, .long _), (5, .int _), (4, .int _), (3, .int _), (0, .int _)]) hx hb d_Mo_encoded_90 rfl hl (by decide) rfl (fun ls hl => ?_)
            refine lv_iinc (k := 1) (v := nI (_ + 1)) (lv' := [(5, .int _), (1, .long _), (4, .int _), (3, .int _), (0, .int _)]) hx hb d_Mo_encoded_91 hl rfl (nI_1 _) (by decide) rfl (fun ls hl => ?_)
            refine lv_goto (tgt := 60) hx hb d_Mo_encoded_94 (by decide) ?_
            have hF : f_Mo_encoded_l60  (n + 1) j2 b2 sy = _ := (if_pos h75)
            rw [hF]
            exact ih (j2 + 1) _ _ _ _ _ (by omega)  (lv_sub hl [0, 2, 3, 1, 4] rfl) hP hD hS
      exact loop 6 0 _ _ _ _ _ (by omega)  hl hP hD hS
    | succ n ih =>
      intro j b_ i_ ls H locs hj  hl hP hD hS
      refine lv_iload hx hb d_Mo_encoded_7 (lv_at hl 0 rfl) ?_
      refine lv_bipush (v := 39) hx hb d_Mo_encoded_9 (by decide) ?_
      refine lv_icmp_ge (tgt := 51) hx hb d_Mo_encoded_11 (by decide) (fun h => absurd h (show ¬ nI 39 ≤ nI j from nI_ge (by omega) (by decide))) (fun _ => ?_)
      refine lv_iload hx hb d_Mo_encoded_14 (lv_at hl 0 rfl) ?_
      refine cj_i (wc := []) (w1 := []) hP hD hS hA [] rfl rfl (va_runS (rest := []) ⟨hx, hb, hml, hown, hg⟩ (c_Mo_isData l D cI cL  _ (nI j)) ⟨callB_of 1 hg (gw_good m_623) rfl rfl rfl (hg _ m_71) (hg _ m_621) hd_Mo_isData ⟨Nat.le_of_ble_eq_true rfl, Nat.le_of_ble_eq_true rfl⟩, hg _ m_622⟩ (pw_S hK hN hT hA hP hD hS [] rfl (by decide)) rfl rfl hl.1 rfl (lv_room (Nat.le_of_ble_eq_true rfl)) d_Mo_encoded_16 ⟨Nat.le_of_ble_eq_true rfl, Nat.le_of_ble_eq_true rfl⟩) (fun H locs hP hD hS => ?_)
      have hP : va_P D classes [] H := hP
      have hD : va_D A [] := hD
      refine lv_if_eq (tgt := 45) hx hb d_Mo_encoded_19 (by decide) (fun h19 => ?_) (fun h19 => ?_)
      · refine lv_iinc (k := 0) (v := nI (_ + 1)) (lv' := [(4, .int _), (3, .int _), (1, .long _), (0, .int _)]) hx hb d_Mo_encoded_45 hl rfl (nI_1 _) (by decide) rfl (fun ls hl => ?_)
        refine lv_goto (tgt := 7) hx hb d_Mo_encoded_48 (by decide) ?_
        have hF : f_Mo_encoded_l7 v (n + 1) j b_ i_ = _ := (if_pos h19)
        rw [hF]
        exact ih (j + 1) _ _ _ _ _ (by omega)  (lv_sub hl [0, 1, 2, 3] rfl) hP hD hS
      · refine lv_iload_n hx hb d_Mo_encoded_22 rfl (lv_at hl 3 rfl) ?_
        refine lv_iload_n hx hb d_Mo_encoded_23 rfl (lv_at hl 1 rfl) ?_
        refine lv_ishr hx hb d_Mo_encoded_24 ?_
        refine lv_iconst (v := 1) hx hb d_Mo_encoded_25 (by decide) ?_
        refine lv_iand hx hb d_Mo_encoded_26 ?_
        refine lv_iconst (v := 1) hx hb d_Mo_encoded_27 (by decide) ?_
        refine lv_icmp_ne (tgt := 40) hx hb d_Mo_encoded_28 (by decide) (fun h28 => ?_) (fun h28 => ?_)
        · refine lv_lload_n hx hb d_Mo_encoded_40 rfl (lv_at hl 2 rfl) ?_
          refine lv_lstore_n (lv' := [(1, .long _), (4, .int _), (3, .int _), (0, .int _)]) hx hb d_Mo_encoded_41 rfl hl (by decide) rfl (fun ls hl => ?_)
          refine lv_iinc (k := 2) (v := _ + 1) (lv' := [(3, .int _), (1, .long _), (4, .int _), (0, .int _)]) hx hb d_Mo_encoded_42 hl rfl rfl (by decide) rfl (fun ls hl => ?_)
          refine lv_iinc (k := 2) (v := nI (_ + 1)) (lv' := [(4, .int _), (3, .int _), (1, .long _), (0, .int _)]) hx hb d_Mo_encoded_45 hl rfl (nI_1 _) (by decide) rfl (fun ls hl => ?_)
          refine lv_goto (tgt := 7) hx hb d_Mo_encoded_48 (by decide) ?_
          have hF : f_Mo_encoded_l7 v (n + 1) j b_ i_ = _ := ((if_neg h19).trans (if_neg h28))
          rw [hF]
          exact ih (j + 1) _ _ _ _ _ (by omega)  (lv_sub hl [0, 1, 2, 3] rfl) hP hD hS
        · refine lv_lload_n hx hb d_Mo_encoded_31 rfl (lv_at hl 2 rfl) ?_
          refine lv_lconst (v := 1) hx hb d_Mo_encoded_32 (by decide) ?_
          refine lv_iload hx hb d_Mo_encoded_33 (lv_at hl 0 rfl) ?_
          refine lv_lshl (v := u_lshl _ _) hx hb d_Mo_encoded_35 rfl ?_
          refine lv_lor hx hb d_Mo_encoded_36 ?_
          refine lv_goto (tgt := 41) hx hb d_Mo_encoded_37 (by decide) ?_
          refine lv_lstore_n (lv' := [(1, .long _), (4, .int _), (3, .int _), (0, .int _)]) hx hb d_Mo_encoded_41 rfl hl (by decide) rfl (fun ls hl => ?_)
          refine lv_iinc (k := 2) (v := _ + 1) (lv' := [(3, .int _), (1, .long _), (4, .int _), (0, .int _)]) hx hb d_Mo_encoded_42 hl rfl rfl (by decide) rfl (fun ls hl => ?_)
          refine lv_iinc (k := 2) (v := nI (_ + 1)) (lv' := [(4, .int _), (3, .int _), (1, .long _), (0, .int _)]) hx hb d_Mo_encoded_45 hl rfl (nI_1 _) (by decide) rfl (fun ls hl => ?_)
          refine lv_goto (tgt := 7) hx hb d_Mo_encoded_48 (by decide) ?_
          have hF : f_Mo_encoded_l7 v (n + 1) j b_ i_ = _ := ((if_neg h19).trans (if_pos h28))
          rw [hF]
          exact ih (j + 1) _ _ _ _ _ (by omega)  (lv_sub hl [0, 1, 2, 3] rfl) hP hD hS
  exact loop 36 3 _ _ _ _ _ (by omega)  hl hP hD hS
abbrev q_Mo_wrongBit (D : va_G) (cI cL : ClassId) (A : Nat → Prop)  (F : Int32) : Array Value → State → Outcome → State → Prop := va_Qi (fun r (_ : Unit) => r = F) (fun _ t => va_P D classes [] t.heap) A
set_option maxHeartbeats 4000000 in
set_option maxRecDepth 100000 in
theorem c_Mo_wrongBit (l : Launch) (D : va_G) (cI cL : ClassId) (sz : Nat)  (x : Int64)  : Met l y_Mo_wrongBit w_Mo_wrongBit ({ frames := 1, cells := 0, slots := 0, locals := 23 }) (va_Pc [.long x] (PW D cI cL [] sz)) (q_Mo_wrongBit D cI cL (va_A [] sz)  (f_Mo_wrongBit x)) 0 0 (va_A [] sz) := by
  refine mk_met (Qf := fun A => q_Mo_wrongBit D cI cL A  (f_Mo_wrongBit x)) (by decide) (Nat.le_of_ble_eq_true rfl) ?_
  intro p e s m below meth c A ls hx hb hr hlocks hml hown hg hK hN hT hA hP hD hS hnm hl
  refine lv_lload_n hx hb d_Mo_wrongBit_0 rfl (lv_at hl 0 rfl) ?_
  refine cj_i (wc := []) (w1 := []) hP hD hS hA [] rfl rfl (va_runS (rest := []) ⟨hx, hb, hml, hown, hg⟩ (c_Mo_syndrome l D cI cL  _ x) ⟨callB_of 1 hg (gw_good m_617) rfl rfl rfl (hg _ m_71) (hg _ m_615) hd_Mo_syndrome ⟨Nat.le_of_ble_eq_true rfl, Nat.le_of_ble_eq_true rfl⟩, hg _ m_616⟩ (pw_S hK hN hT hA hP hD hS [] rfl (by decide)) rfl rfl hl.1 rfl (lv_room (Nat.le_of_ble_eq_true rfl)) d_Mo_wrongBit_1 ⟨Nat.le_of_ble_eq_true rfl, Nat.le_of_ble_eq_true rfl⟩) (fun H locs hP hD hS => ?_)
  have hP : va_P D classes [] H := hP
  have hD : va_D A [] := hD
  refine lv_istore_n (lv' := [(2, .int _), (0, .long _)]) hx hb d_Mo_wrongBit_4 rfl hl (by decide) rfl (fun ls hl => ?_)
  refine lv_lload_n hx hb d_Mo_wrongBit_5 rfl (lv_at hl 1 rfl) ?_
  refine cj_i (wc := []) (w1 := []) hP hD hS hA [] rfl rfl (va_runS (rest := []) ⟨hx, hb, hml, hown, hg⟩ (c_Mo_isOdd l D cI cL  _ x) ⟨callB_of 1 hg (gw_good m_606) rfl rfl rfl (hg _ m_71) (hg _ m_604) hd_Mo_isOdd ⟨Nat.le_of_ble_eq_true rfl, Nat.le_of_ble_eq_true rfl⟩, hg _ m_605⟩ (pw_S hK hN hT hA hP hD hS [] rfl (by decide)) rfl rfl hl.1 rfl (lv_room (Nat.le_of_ble_eq_true rfl)) d_Mo_wrongBit_6 ⟨Nat.le_of_ble_eq_true rfl, Nat.le_of_ble_eq_true rfl⟩) (fun H locs hP hD hS => ?_)
  have hP : va_P D classes [] H := hP
  have hD : va_D A [] := hD
  refine lv_if_eq (tgt := 27) hx hb d_Mo_wrongBit_9 (by decide) (fun h9 => ?_) (fun h9 => ?_)
  · refine lv_iload_n hx hb d_Mo_wrongBit_27 rfl (lv_at hl 0 rfl) ?_
    refine lv_if_ne (tgt := 35) hx hb d_Mo_wrongBit_28 (by decide) (fun h28 => ?_) (fun h28 => ?_)
    · refine lv_bipush (v := -2) hx hb d_Mo_wrongBit_35 (by decide) ?_
      have hF : f_Mo_wrongBit x = _ := ((if_pos h9).trans (if_neg h28))
      rw [hF]
      exact W.iret hx hb hr (fun t ht hW => ⟨⟨_, (), rfl, rfl, by show va_P D classes _ t.heap; rw [ht]; exact hP⟩, hS.F ht⟩) hS.2.2 d_Mo_wrongBit_37 hlocks
    · refine lv_iconst (v := -1) hx hb d_Mo_wrongBit_31 (by decide) ?_
      refine lv_goto (tgt := 37) hx hb d_Mo_wrongBit_32 (by decide) ?_
      have hF : f_Mo_wrongBit x = _ := ((if_pos h9).trans (if_pos h28))
      rw [hF]
      exact W.iret hx hb hr (fun t ht hW => ⟨⟨_, (), rfl, rfl, by show va_P D classes _ t.heap; rw [ht]; exact hP⟩, hS.F ht⟩) hS.2.2 d_Mo_wrongBit_37 hlocks
  · refine lv_iload_n hx hb d_Mo_wrongBit_12 rfl (lv_at hl 0 rfl) ?_
    refine lv_bipush (v := 39) hx hb d_Mo_wrongBit_13 (by decide) ?_
    refine lv_icmp_ge (tgt := 22) hx hb d_Mo_wrongBit_15 (by decide) (fun h15 => ?_) (fun h15 => ?_)
    · refine lv_bipush (v := -2) hx hb d_Mo_wrongBit_22 (by decide) ?_
      refine lv_goto (tgt := 37) hx hb d_Mo_wrongBit_24 (by decide) ?_
      have hF : f_Mo_wrongBit x = _ := ((if_neg h9).trans (if_pos h15))
      rw [hF]
      exact W.iret hx hb hr (fun t ht hW => ⟨⟨_, (), rfl, rfl, by show va_P D classes _ t.heap; rw [ht]; exact hP⟩, hS.F ht⟩) hS.2.2 d_Mo_wrongBit_37 hlocks
    · refine lv_iload_n hx hb d_Mo_wrongBit_18 rfl (lv_at hl 0 rfl) ?_
      refine lv_goto (tgt := 37) hx hb d_Mo_wrongBit_19 (by decide) ?_
      have hF : f_Mo_wrongBit x = _ := ((if_neg h9).trans (if_neg h15))
      rw [hF]
      exact W.iret hx hb hr (fun t ht hW => ⟨⟨_, (), rfl, rfl, by show va_P D classes _ t.heap; rw [ht]; exact hP⟩, hS.F ht⟩) hS.2.2 d_Mo_wrongBit_37 hlocks
abbrev q_Mo_mend (D : va_G) (cI cL : ClassId) (b0 b1 b2 b3 b4 b5 b6 b7 : Nat) (A : Nat → Prop) (ev : Int32) (wr : Nat → Int32) (wg : Nat → Int64) (ke : Nat → Int32) (ma : Nat → Int32) (li : Nat → Int64) (ps : Int32) (pn : Nat → Int32) (cy : Int32) (ca : Int32) (va : Int32) (cn : Nat → Int32) (pp : Int32) (px : Int32) (go : Int32) (ne : Int32) (gi : Int32) (gn : Int32) (F : Int32 × (Nat → Int64) × (Nat → Int32)) : Array Value → State → Outcome → State → Prop := va_Qi (fun r (_ : Unit) => r = F.1) (fun _ t => va_P D classes (W_Mo cI cL b0 b1 b2 b3 b4 b5 b6 b7 ev wr F.2.1 ke ma li ps pn cy ca va F.2.2 pp px go ne gi gn) t.heap) A
set_option maxHeartbeats 4000000 in
set_option maxRecDepth 100000 in
theorem c_Mo_mend (l : Launch) (D : va_G) (cI cL : ClassId) (b0 b1 b2 b3 b4 b5 b6 b7 : Nat) (sz : Nat) (ev : Int32) (wr : Nat → Int32) (wg : Nat → Int64) (ke : Nat → Int32) (ma : Nat → Int32) (li : Nat → Int64) (ps : Int32) (pn : Nat → Int32) (cy : Int32) (ca : Int32) (va : Int32) (cn : Nat → Int32) (pp : Int32) (px : Int32) (go : Int32) (ne : Int32) (gi : Int32) (gn : Int32) (w : Int32) (h_w : vp_in w 64) : Met l y_Mo_mend w_Mo_mend ({ frames := 2, cells := 0, slots := 0, locals := 45 }) (va_Pc [.ref b0, .int w] (PW D cI cL (W_Mo cI cL b0 b1 b2 b3 b4 b5 b6 b7 ev wr wg ke ma li ps pn cy ca va cn pp px go ne gi gn) sz)) (q_Mo_mend D cI cL b0 b1 b2 b3 b4 b5 b6 b7 (va_A (W_Mo cI cL b0 b1 b2 b3 b4 b5 b6 b7 ev wr wg ke ma li ps pn cy ca va cn pp px go ne gi gn) sz) ev wr wg ke ma li ps pn cy ca va cn pp px go ne gi gn (f_Mo_mend wg cn w)) 0 0 (va_A (W_Mo cI cL b0 b1 b2 b3 b4 b5 b6 b7 ev wr wg ke ma li ps pn cy ca va cn pp px go ne gi gn) sz) := by
  refine mk_met (Qf := fun A => q_Mo_mend D cI cL b0 b1 b2 b3 b4 b5 b6 b7 A ev wr wg ke ma li ps pn cy ca va cn pp px go ne gi gn (f_Mo_mend wg cn w)) (by decide) (Nat.le_of_ble_eq_true rfl) ?_
  intro p e s m below meth c A ls hx hb hr hlocks hml hown hg hK hN hT hA hP hD hS hnm hl
  refine lv_aload_n hx hb d_Mo_mend_0 rfl (lv_at hl 0 rfl) ?_
  refine va_get (ci := 5) (C := R_Mo) (T := F_Mo) (N := 18) hx hb hg in_Mo hown hK hP 0 rfl rfl 2 (by decide) (hg _ m_505) (fun _ h => h) rfl d_Mo_mend_1 ?_
  refine lv_iload_n hx hb d_Mo_mend_4 rfl (lv_at hl 1 rfl) ?_
  refine va_lald hx hb hK hP 2 1 rfl rfl h_w d_Mo_mend_5 ?_
  refine cj_i (wc := []) (w1 := []) hP hD hS hA [] rfl rfl (va_runS (rest := []) ⟨hx, hb, hml, hown, hg⟩ (c_Mo_wrongBit l D cI cL  _ (wg w.toNatClampNeg)) ⟨callB_of 1 hg (gw_good m_614) rfl rfl rfl (hg _ m_71) (hg _ m_612) hd_Mo_wrongBit ⟨Nat.le_of_ble_eq_true rfl, Nat.le_of_ble_eq_true rfl⟩, hg _ m_613⟩ (pw_S hK hN hT hA hP hD hS [] rfl (by decide)) rfl rfl hl.1 rfl (lv_room (Nat.le_of_ble_eq_true rfl)) d_Mo_mend_6 ⟨Nat.le_of_ble_eq_true rfl, Nat.le_of_ble_eq_true rfl⟩) (fun H locs hP hD hS => ?_)
  have hP : va_P D classes (W_Mo cI cL b0 b1 b2 b3 b4 b5 b6 b7 ev wr wg ke ma li ps pn cy ca va cn pp px go ne gi gn) H := hP
  have hD : va_D A (W_Mo cI cL b0 b1 b2 b3 b4 b5 b6 b7 ev wr wg ke ma li ps pn cy ca va cn pp px go ne gi gn) := hD
  refine lv_istore_n (lv' := [(2, .int _), (0, .ref _), (1, .int _)]) hx hb d_Mo_mend_9 rfl hl (by decide) rfl (fun ls hl => ?_)
  refine lv_iload_n hx hb d_Mo_mend_10 rfl (lv_at hl 0 rfl) ?_
  refine lv_if_lt (tgt := 40) hx hb d_Mo_mend_11 (by decide) (fun h11 => ?_) (fun h11 => ?_)
  · refine lv_iload_n hx hb d_Mo_mend_40 rfl (lv_at hl 0 rfl) ?_
    refine lv_bipush (v := -2) hx hb d_Mo_mend_41 (by decide) ?_
    refine lv_icmp_eq (tgt := 50) hx hb d_Mo_mend_43 (by decide) (fun h43 => ?_) (fun h43 => ?_)
    · refine lv_iconst (v := 0) hx hb d_Mo_mend_50 (by decide) ?_
      have hF : f_Mo_mend wg cn w = _ := ((if_pos h11).trans (if_pos h43))
      rw [hF]
      exact W.zret hx hb hr rfl (fun t ht hW => ⟨⟨_, (), rfl, rfl, by show va_P D classes _ t.heap; rw [ht]; exact hP⟩, hS.F ht⟩) hS.2.2 d_Mo_mend_51 hlocks
    · refine lv_iconst (v := 1) hx hb d_Mo_mend_46 (by decide) ?_
      refine lv_goto (tgt := 51) hx hb d_Mo_mend_47 (by decide) ?_
      have hF : f_Mo_mend wg cn w = _ := ((if_pos h11).trans (if_neg h43))
      rw [hF]
      exact W.zret hx hb hr rfl (fun t ht hW => ⟨⟨_, (), rfl, rfl, by show va_P D classes _ t.heap; rw [ht]; exact hP⟩, hS.F ht⟩) hS.2.2 d_Mo_mend_51 hlocks
  · refine lv_aload_n hx hb d_Mo_mend_14 rfl (lv_at hl 1 rfl) ?_
    refine va_get (ci := 5) (C := R_Mo) (T := F_Mo) (N := 18) hx hb hg in_Mo hown hK hP 0 rfl rfl 2 (by decide) (hg _ m_505) (fun _ h => h) rfl d_Mo_mend_15 ?_
    refine lv_iload_n hx hb d_Mo_mend_18 rfl (lv_at hl 2 rfl) ?_
    refine lv_aload_n hx hb d_Mo_mend_19 rfl (lv_at hl 1 rfl) ?_
    refine va_get (ci := 5) (C := R_Mo) (T := F_Mo) (N := 18) hx hb hg in_Mo hown hK hP 0 rfl rfl 2 (by decide) (hg _ m_505) (fun _ h => h) rfl d_Mo_mend_20 ?_
    refine lv_iload_n hx hb d_Mo_mend_23 rfl (lv_at hl 2 rfl) ?_
    refine va_lald hx hb hK hP 2 1 rfl rfl h_w d_Mo_mend_24 ?_
    refine lv_lconst (v := 1) hx hb d_Mo_mend_25 (by decide) ?_
    refine lv_iload_n hx hb d_Mo_mend_26 rfl (lv_at hl 0 rfl) ?_
    refine lv_lshl (v := u_lshl _ _) hx hb d_Mo_mend_27 rfl ?_
    refine lv_lxor hx hb d_Mo_mend_28 ?_
    refine va_last hx hb hK hP hD hS 2 1 rfl rfl h_w d_Mo_mend_29 (fun H locs hP hD hS => ?_)
    have hP : va_P D classes (W_Mo cI cL b0 b1 b2 b3 b4 b5 b6 b7 ev wr (vp_updL wg w.toNatClampNeg ((wg w.toNatClampNeg) ^^^ (u_lshl (1 : Int64) (f_Mo_wrongBit (wg w.toNatClampNeg))))) ke ma li ps pn cy ca va cn pp px go ne gi gn) H := hP
    have hD : va_D A (W_Mo cI cL b0 b1 b2 b3 b4 b5 b6 b7 ev wr (vp_updL wg w.toNatClampNeg ((wg w.toNatClampNeg) ^^^ (u_lshl (1 : Int64) (f_Mo_wrongBit (wg w.toNatClampNeg))))) ke ma li ps pn cy ca va cn pp px go ne gi gn) := hD
    refine lv_aload_n hx hb d_Mo_mend_30 rfl (lv_at hl 1 rfl) ?_
    refine va_get (ci := 5) (C := R_Mo) (T := F_Mo) (N := 18) hx hb hg in_Mo hown hK hP 0 rfl rfl 11 (by decide) (hg _ m_514) (fun _ h => h) rfl d_Mo_mend_31 ?_
    refine lv_iconst (v := 0) hx hb d_Mo_mend_34 (by decide) ?_
    refine lv_dup2_11 hx hb d_Mo_mend_35 rfl rfl ?_
    refine va_iald hx hb hK hP 7 0 rfl rfl (vp_ofb (by decide)) d_Mo_mend_36 ?_
    refine lv_iconst (v := 1) hx hb d_Mo_mend_37 (by decide) ?_
    refine lv_iadd hx hb d_Mo_mend_38 ?_
    refine va_iast hx hb hK hP hD hS 7 0 rfl rfl (vp_ofb (by decide)) d_Mo_mend_39 (fun H locs hP hD hS => ?_)
    have hP : va_P D classes (W_Mo cI cL b0 b1 b2 b3 b4 b5 b6 b7 ev wr (vp_updL wg w.toNatClampNeg ((wg w.toNatClampNeg) ^^^ (u_lshl (1 : Int64) (f_Mo_wrongBit (wg w.toNatClampNeg))))) ke ma li ps pn cy ca va (upd cn (0 : Int32).toNatClampNeg ((cn (0 : Int32).toNatClampNeg) + (1 : Int32))) pp px go ne gi gn) H := hP
    have hD : va_D A (W_Mo cI cL b0 b1 b2 b3 b4 b5 b6 b7 ev wr (vp_updL wg w.toNatClampNeg ((wg w.toNatClampNeg) ^^^ (u_lshl (1 : Int64) (f_Mo_wrongBit (wg w.toNatClampNeg))))) ke ma li ps pn cy ca va (upd cn (0 : Int32).toNatClampNeg ((cn (0 : Int32).toNatClampNeg) + (1 : Int32))) pp px go ne gi gn) := hD
    refine lv_iload_n hx hb d_Mo_mend_40 rfl (lv_at hl 0 rfl) ?_
    refine lv_bipush (v := -2) hx hb d_Mo_mend_41 (by decide) ?_
    refine lv_icmp_eq (tgt := 50) hx hb d_Mo_mend_43 (by decide) (fun h43 => ?_) (fun h43 => ?_)
    · refine lv_iconst (v := 0) hx hb d_Mo_mend_50 (by decide) ?_
      have hF : f_Mo_mend wg cn w = _ := ((if_neg h11).trans (if_pos h43))
      rw [hF]
      exact W.zret hx hb hr rfl (fun t ht hW => ⟨⟨_, (), rfl, rfl, by show va_P D classes _ t.heap; rw [ht]; exact hP⟩, hS.F ht⟩) hS.2.2 d_Mo_mend_51 hlocks
    · refine lv_iconst (v := 1) hx hb d_Mo_mend_46 (by decide) ?_
      refine lv_goto (tgt := 51) hx hb d_Mo_mend_47 (by decide) ?_
      have hF : f_Mo_mend wg cn w = _ := ((if_neg h11).trans (if_neg h43))
      rw [hF]
      exact W.zret hx hb hr rfl (fun t ht hW => ⟨⟨_, (), rfl, rfl, by show va_P D classes _ t.heap; rw [ht]; exact hP⟩, hS.F ht⟩) hS.2.2 d_Mo_mend_51 hlocks
abbrev q_Mo_keep (D : va_G) (cI cL : ClassId) (b0 b1 b2 b3 b4 b5 b6 b7 : Nat) (A : Nat → Prop) (ev : Int32) (wr : Nat → Int32) (wg : Nat → Int64) (ke : Nat → Int32) (ma : Nat → Int32) (li : Nat → Int64) (ps : Int32) (pn : Nat → Int32) (cy : Int32) (ca : Int32) (va : Int32) (cn : Nat → Int32) (pp : Int32) (px : Int32) (go : Int32) (ne : Int32) (gi : Int32) (gn : Int32) (F : (Nat → Int32) × (Nat → Int64)) : Array Value → State → Outcome → State → Prop := va_Qv (fun (_ : Unit) => True) (fun _ t => va_P D classes (W_Mo cI cL b0 b1 b2 b3 b4 b5 b6 b7 ev F.1 F.2 ke ma li ps pn cy ca va cn pp px go ne gi gn) t.heap) A
set_option maxHeartbeats 4000000 in
set_option maxRecDepth 100000 in
theorem c_Mo_keep (l : Launch) (D : va_G) (cI cL : ClassId) (b0 b1 b2 b3 b4 b5 b6 b7 : Nat) (sz : Nat) (ev : Int32) (wr : Nat → Int32) (wg : Nat → Int64) (ke : Nat → Int32) (ma : Nat → Int32) (li : Nat → Int64) (ps : Int32) (pn : Nat → Int32) (cy : Int32) (ca : Int32) (va : Int32) (cn : Nat → Int32) (pp : Int32) (px : Int32) (go : Int32) (ne : Int32) (gi : Int32) (gn : Int32) (w : Int32) (v : Int32) (h_w : vp_in w 64) : Met l y_Mo_keep w_Mo_keep ({ frames := 0, cells := 0, slots := 0, locals := 0 }) (va_Pc [.ref b0, .int w, .int v] (PW D cI cL (W_Mo cI cL b0 b1 b2 b3 b4 b5 b6 b7 ev wr wg ke ma li ps pn cy ca va cn pp px go ne gi gn) sz)) (q_Mo_keep D cI cL b0 b1 b2 b3 b4 b5 b6 b7 (va_A (W_Mo cI cL b0 b1 b2 b3 b4 b5 b6 b7 ev wr wg ke ma li ps pn cy ca va cn pp px go ne gi gn) sz) ev wr wg ke ma li ps pn cy ca va cn pp px go ne gi gn (f_Mo_keep wr wg w v)) 0 0 (va_A (W_Mo cI cL b0 b1 b2 b3 b4 b5 b6 b7 ev wr wg ke ma li ps pn cy ca va cn pp px go ne gi gn) sz) := by
  refine mk_met (Qf := fun A => q_Mo_keep D cI cL b0 b1 b2 b3 b4 b5 b6 b7 A ev wr wg ke ma li ps pn cy ca va cn pp px go ne gi gn (f_Mo_keep wr wg w v)) (by decide) (Nat.le_of_ble_eq_true rfl) ?_
  intro p e s m below meth c A ls hx hb hr hlocks hml hown hg hK hN hT hA hP hD hS hnm hl
  refine lv_aload_n hx hb d_Mo_keep_0 rfl (lv_at hl 0 rfl) ?_
  refine va_get (ci := 5) (C := R_Mo) (T := F_Mo) (N := 18) hx hb hg in_Mo hown hK hP 0 rfl rfl 1 (by decide) (hg _ m_504) (fun _ h => h) rfl d_Mo_keep_1 ?_
  refine lv_iload_n hx hb d_Mo_keep_4 rfl (lv_at hl 1 rfl) ?_
  refine lv_iload_n hx hb d_Mo_keep_5 rfl (lv_at hl 2 rfl) ?_
  refine va_iast hx hb hK hP hD hS 1 0 rfl rfl h_w d_Mo_keep_6 (fun H locs hP hD hS => ?_)
  have hP : va_P D classes (W_Mo cI cL b0 b1 b2 b3 b4 b5 b6 b7 ev (upd wr w.toNatClampNeg v) wg ke ma li ps pn cy ca va cn pp px go ne gi gn) H := hP
  have hD : va_D A (W_Mo cI cL b0 b1 b2 b3 b4 b5 b6 b7 ev (upd wr w.toNatClampNeg v) wg ke ma li ps pn cy ca va cn pp px go ne gi gn) := hD
  refine lv_aload_n hx hb d_Mo_keep_7 rfl (lv_at hl 0 rfl) ?_
  refine va_get (ci := 5) (C := R_Mo) (T := F_Mo) (N := 18) hx hb hg in_Mo hown hK hP 0 rfl rfl 2 (by decide) (hg _ m_505) (fun _ h => h) rfl d_Mo_keep_8 ?_
  refine lv_iload_n hx hb d_Mo_keep_11 rfl (lv_at hl 1 rfl) ?_
  refine lv_lconst (v := 0) hx hb d_Mo_keep_12 (by decide) ?_
  refine va_last hx hb hK hP hD hS 2 1 rfl rfl h_w d_Mo_keep_13 (fun H locs hP hD hS => ?_)
  have hP : va_P D classes (W_Mo cI cL b0 b1 b2 b3 b4 b5 b6 b7 ev (upd wr w.toNatClampNeg v) (vp_updL wg w.toNatClampNeg (0 : Int64)) ke ma li ps pn cy ca va cn pp px go ne gi gn) H := hP
  have hD : va_D A (W_Mo cI cL b0 b1 b2 b3 b4 b5 b6 b7 ev (upd wr w.toNatClampNeg v) (vp_updL wg w.toNatClampNeg (0 : Int64)) ke ma li ps pn cy ca va cn pp px go ne gi gn) := hD
  exact W.vret hx hb hr (fun t ht hW => ⟨⟨(), rfl, trivial, by show va_P D classes _ t.heap; rw [ht]; exact hP⟩, hS.F ht⟩) hS.2.2 d_Mo_keep_14 hlocks
abbrev q_Mo_line (D : va_G) (cI cL : ClassId) (A : Nat → Prop)  (F : Int64) : Array Value → State → Outcome → State → Prop := va_Ql (fun r (_ : Unit) => r = F) (fun _ t => va_P D classes [] t.heap) A
set_option maxHeartbeats 4000000 in
set_option maxRecDepth 100000 in
theorem c_Mo_line (l : Launch) (D : va_G) (cI cL : ClassId) (sz : Nat)  (v : Int32) (g : Int32)  : Met l y_Mo_line w_Mo_line ({ frames := 1, cells := 0, slots := 0, locals := 23 }) (va_Pc [.int v, .int g] (PW D cI cL [] sz)) (q_Mo_line D cI cL (va_A [] sz)  (f_Mo_line v g)) 0 0 (va_A [] sz) := by
  refine mk_met (Qf := fun A => q_Mo_line D cI cL A  (f_Mo_line v g)) (by decide) (Nat.le_of_ble_eq_true rfl) ?_
  intro p e s m below meth c A ls hx hb hr hlocks hml hown hg hK hN hT hA hP hD hS hnm hl
  refine lv_iload_n hx hb d_Mo_line_0 rfl (lv_at hl 0 rfl) ?_
  refine lv_i2l hx hb d_Mo_line_1 rfl ?_
  refine lv_ldc2 hx hb hown (hg _ m_627) d_Mo_line_2 ?_
  refine lv_land hx hb d_Mo_line_5 ?_
  refine lv_iload_n hx hb d_Mo_line_6 rfl (lv_at hl 1 rfl) ?_
  refine lv_i2l hx hb d_Mo_line_7 rfl ?_
  refine lv_bipush (v := 32) hx hb d_Mo_line_8 (by decide) ?_
  refine lv_lshl (v := u_lshl _ _) hx hb d_Mo_line_10 rfl ?_
  refine lv_lor hx hb d_Mo_line_11 ?_
  refine lv_ldc2 hx hb hown (hg _ m_628) d_Mo_line_12 ?_
  refine lv_lor hx hb d_Mo_line_15 ?_
  refine lv_lstore_n (lv' := [(2, .long _), (0, .int _), (1, .int _)]) hx hb d_Mo_line_16 rfl hl (by decide) rfl (fun ls hl => ?_)
  refine lv_lload_n hx hb d_Mo_line_17 rfl (lv_at hl 0 rfl) ?_
  refine cj_i (wc := []) (w1 := []) hP hD hS hA [] rfl rfl (va_runS (rest := []) ⟨hx, hb, hml, hown, hg⟩ (c_Mo_isOdd l D cI cL  _ (((((v.toInt64) &&& (4294967295 : Int64)) ||| (u_lshl (g.toInt64) (32 : Int32))) ||| (68719476736 : Int64)))) ⟨callB_of 1 hg (gw_good m_606) rfl rfl rfl (hg _ m_71) (hg _ m_604) hd_Mo_isOdd ⟨Nat.le_of_ble_eq_true rfl, Nat.le_of_ble_eq_true rfl⟩, hg _ m_605⟩ (pw_S hK hN hT hA hP hD hS [] rfl (by decide)) rfl rfl hl.1 rfl (lv_room (Nat.le_of_ble_eq_true rfl)) d_Mo_line_18 ⟨Nat.le_of_ble_eq_true rfl, Nat.le_of_ble_eq_true rfl⟩) (fun H locs hP hD hS => ?_)
  have hP : va_P D classes [] H := hP
  have hD : va_D A [] := hD
  refine lv_if_eq (tgt := 32) hx hb d_Mo_line_21 (by decide) (fun h21 => ?_) (fun h21 => ?_)
  · refine lv_lload_n hx hb d_Mo_line_32 rfl (lv_at hl 0 rfl) ?_
    have hF : f_Mo_line v g = _ := (if_pos h21)
    rw [hF]
    exact W.lret hx hb hr (fun t ht hW => ⟨⟨_, (), rfl, rfl, by show va_P D classes _ t.heap; rw [ht]; exact hP⟩, hS.F ht⟩) hS.2.2 d_Mo_line_33 hlocks
  · refine lv_lload_n hx hb d_Mo_line_24 rfl (lv_at hl 0 rfl) ?_
    refine lv_ldc2 hx hb hown (hg _ m_629) d_Mo_line_25 ?_
    refine lv_lor hx hb d_Mo_line_28 ?_
    refine lv_goto (tgt := 33) hx hb d_Mo_line_29 (by decide) ?_
    have hF : f_Mo_line v g = _ := (if_neg h21)
    rw [hF]
    exact W.lret hx hb hr (fun t ht hW => ⟨⟨_, (), rfl, rfl, by show va_P D classes _ t.heap; rw [ht]; exact hP⟩, hS.F ht⟩) hS.2.2 d_Mo_line_33 hlocks
abbrev q_Mo_stop (D : va_G) (cI cL : ClassId) (b0 b1 b2 b3 b4 b5 b6 b7 : Nat) (A : Nat → Prop) (ev : Int32) (wr : Nat → Int32) (wg : Nat → Int64) (ke : Nat → Int32) (ma : Nat → Int32) (li : Nat → Int64) (ps : Int32) (pn : Nat → Int32) (cy : Int32) (ca : Int32) (va : Int32) (cn : Nat → Int32) (pp : Int32) (px : Int32) (go : Int32) (ne : Int32) (gi : Int32) (gn : Int32) (F : Int32 × Int32) : Array Value → State → Outcome → State → Prop := va_Qv (fun (_ : Unit) => True) (fun _ t => va_P D classes (W_Mo cI cL b0 b1 b2 b3 b4 b5 b6 b7 ev wr wg ke ma li ps pn cy F.1 F.2 cn pp px go ne gi gn) t.heap) A
set_option maxHeartbeats 4000000 in
set_option maxRecDepth 100000 in
theorem c_Mo_stop (l : Launch) (D : va_G) (cI cL : ClassId) (b0 b1 b2 b3 b4 b5 b6 b7 : Nat) (sz : Nat) (ev : Int32) (wr : Nat → Int32) (wg : Nat → Int64) (ke : Nat → Int32) (ma : Nat → Int32) (li : Nat → Int64) (ps : Int32) (pn : Nat → Int32) (cy : Int32) (ca : Int32) (va : Int32) (cn : Nat → Int32) (pp : Int32) (px : Int32) (go : Int32) (ne : Int32) (gi : Int32) (gn : Int32) (x : Int32) (v : Int32)  : Met l y_Mo_stop w_Mo_stop ({ frames := 0, cells := 0, slots := 0, locals := 0 }) (va_Pc [.ref b0, .int x, .int v] (PW D cI cL (W_Mo cI cL b0 b1 b2 b3 b4 b5 b6 b7 ev wr wg ke ma li ps pn cy ca va cn pp px go ne gi gn) sz)) (q_Mo_stop D cI cL b0 b1 b2 b3 b4 b5 b6 b7 (va_A (W_Mo cI cL b0 b1 b2 b3 b4 b5 b6 b7 ev wr wg ke ma li ps pn cy ca va cn pp px go ne gi gn) sz) ev wr wg ke ma li ps pn cy ca va cn pp px go ne gi gn (f_Mo_stop ca va x v)) 0 0 (va_A (W_Mo cI cL b0 b1 b2 b3 b4 b5 b6 b7 ev wr wg ke ma li ps pn cy ca va cn pp px go ne gi gn) sz) := by
  refine mk_met (Qf := fun A => q_Mo_stop D cI cL b0 b1 b2 b3 b4 b5 b6 b7 A ev wr wg ke ma li ps pn cy ca va cn pp px go ne gi gn (f_Mo_stop ca va x v)) (by decide) (Nat.le_of_ble_eq_true rfl) ?_
  intro p e s m below meth c A ls hx hb hr hlocks hml hown hg hK hN hT hA hP hD hS hnm hl
  refine lv_aload_n hx hb d_Mo_stop_0 rfl (lv_at hl 0 rfl) ?_
  refine lv_iload_n hx hb d_Mo_stop_1 rfl (lv_at hl 1 rfl) ?_
  refine va_put (ci := 5) (ty := .int) (C := R_Mo) (T := F_Mo) (N := 18) hx hb hg in_Mo t_Mo t_Mo_ok n_Mo hown hK hP hD hS 0 rfl rfl 9 (by decide) (hg _ m_512) (fun _ h => h) rfl (by decide +kernel) rfl rfl (Nat.le_of_ble_eq_true rfl) d_Mo_stop_2 (fun H locs hP hD hS => ?_)
  have hP : va_P D classes (W_Mo cI cL b0 b1 b2 b3 b4 b5 b6 b7 ev wr wg ke ma li ps pn cy x va cn pp px go ne gi gn) H := hP
  have hD : va_D A (W_Mo cI cL b0 b1 b2 b3 b4 b5 b6 b7 ev wr wg ke ma li ps pn cy x va cn pp px go ne gi gn) := hD
  refine lv_aload_n hx hb d_Mo_stop_5 rfl (lv_at hl 0 rfl) ?_
  refine lv_iload_n hx hb d_Mo_stop_6 rfl (lv_at hl 2 rfl) ?_
  refine va_put (ci := 5) (ty := .int) (C := R_Mo) (T := F_Mo) (N := 18) hx hb hg in_Mo t_Mo t_Mo_ok n_Mo hown hK hP hD hS 0 rfl rfl 10 (by decide) (hg _ m_513) (fun _ h => h) rfl (by decide +kernel) rfl rfl (Nat.le_of_ble_eq_true rfl) d_Mo_stop_7 (fun H locs hP hD hS => ?_)
  have hP : va_P D classes (W_Mo cI cL b0 b1 b2 b3 b4 b5 b6 b7 ev wr wg ke ma li ps pn cy x v cn pp px go ne gi gn) H := hP
  have hD : va_D A (W_Mo cI cL b0 b1 b2 b3 b4 b5 b6 b7 ev wr wg ke ma li ps pn cy x v cn pp px go ne gi gn) := hD
  exact W.vret hx hb hr (fun t ht hW => ⟨⟨(), rfl, trivial, by show va_P D classes _ t.heap; rw [ht]; exact hP⟩, hS.F ht⟩) hS.2.2 d_Mo_stop_10 hlocks
abbrev q_Mo_holds (D : va_G) (cI cL : ClassId) (b0 b1 b2 b3 b4 b5 b6 b7 : Nat) (A : Nat → Prop) (ev : Int32) (wr : Nat → Int32) (wg : Nat → Int64) (ke : Nat → Int32) (ma : Nat → Int32) (li : Nat → Int64) (ps : Int32) (pn : Nat → Int32) (cy : Int32) (ca : Int32) (va : Int32) (cn : Nat → Int32) (pp : Int32) (px : Int32) (go : Int32) (ne : Int32) (gi : Int32) (gn : Int32) (F : Int32 × (Nat → Int64) × (Nat → Int32)) : Array Value → State → Outcome → State → Prop := va_Qi (fun r (_ : Unit) => r = F.1) (fun _ t => va_P D classes (W_Mo cI cL b0 b1 b2 b3 b4 b5 b6 b7 ev wr wg ke ma F.2.1 ps pn cy ca va F.2.2 pp px go ne gi gn) t.heap) A
set_option maxHeartbeats 4000000 in
set_option maxRecDepth 100000 in
theorem c_Mo_holds (l : Launch) (D : va_G) (cI cL : ClassId) (b0 b1 b2 b3 b4 b5 b6 b7 : Nat) (sz : Nat) (ev : Int32) (wr : Nat → Int32) (wg : Nat → Int64) (ke : Nat → Int32) (ma : Nat → Int32) (li : Nat → Int64) (ps : Int32) (pn : Nat → Int32) (cy : Int32) (ca : Int32) (va : Int32) (cn : Nat → Int32) (pp : Int32) (px : Int32) (go : Int32) (ne : Int32) (gi : Int32) (gn : Int32) (cc : Int32) (w : Int32) (h_cc : vp_in cc 2) (h_w : vp_in w 64) : Met l y_Mo_holds w_Mo_holds ({ frames := 1, cells := 0, slots := 0, locals := 23 }) (va_Pc [.ref b0, .int cc, .int w] (PW D cI cL (W_Mo cI cL b0 b1 b2 b3 b4 b5 b6 b7 ev wr wg ke ma li ps pn cy ca va cn pp px go ne gi gn) sz)) (q_Mo_holds D cI cL b0 b1 b2 b3 b4 b5 b6 b7 (va_A (W_Mo cI cL b0 b1 b2 b3 b4 b5 b6 b7 ev wr wg ke ma li ps pn cy ca va cn pp px go ne gi gn) sz) ev wr wg ke ma li ps pn cy ca va cn pp px go ne gi gn (f_Mo_holds li cn cc w)) 0 0 (va_A (W_Mo cI cL b0 b1 b2 b3 b4 b5 b6 b7 ev wr wg ke ma li ps pn cy ca va cn pp px go ne gi gn) sz) := by
  refine mk_met (Qf := fun A => q_Mo_holds D cI cL b0 b1 b2 b3 b4 b5 b6 b7 A ev wr wg ke ma li ps pn cy ca va cn pp px go ne gi gn (f_Mo_holds li cn cc w)) (by decide) (Nat.le_of_ble_eq_true rfl) ?_
  intro p e s m below meth c A ls hx hb hr hlocks hml hown hg hK hN hT hA hP hD hS hnm hl
  refine lv_iconst (v := 4) hx hb d_Mo_holds_0 (by decide) ?_
  refine lv_iload_n hx hb d_Mo_holds_1 rfl (lv_at hl 1 rfl) ?_
  refine lv_imul hx hb d_Mo_holds_2 ?_
  refine lv_iload_n hx hb d_Mo_holds_3 rfl (lv_at hl 2 rfl) ?_
  refine lv_iconst (v := 4) hx hb d_Mo_holds_4 (by decide) ?_
  refine lv_irem hx hb d_Mo_holds_5 (by decide) ?_
  refine lv_iadd hx hb d_Mo_holds_6 ?_
  refine lv_istore_n (lv' := [(3, .int _), (0, .ref _), (1, .int _), (2, .int _)]) hx hb d_Mo_holds_7 rfl hl (by decide) rfl (fun ls hl => ?_)
  refine lv_aload_n hx hb d_Mo_holds_8 rfl (lv_at hl 1 rfl) ?_
  refine va_get (ci := 5) (C := R_Mo) (T := F_Mo) (N := 18) hx hb hg in_Mo hown hK hP 0 rfl rfl 5 (by decide) (hg _ m_508) (fun _ h => h) rfl d_Mo_holds_9 ?_
  refine lv_iload_n hx hb d_Mo_holds_12 rfl (lv_at hl 0 rfl) ?_
  refine va_lald hx hb hK hP 5 1 rfl rfl (at_in h_cc h_w) d_Mo_holds_13 ?_
  refine cj_i (wc := []) (w1 := []) hP hD hS hA [] rfl rfl (va_runS (rest := []) ⟨hx, hb, hml, hown, hg⟩ (c_Mo_isOdd l D cI cL  _ (li (((4 : Int32) * cc) + (u_rem w (4 : Int32))).toNatClampNeg)) ⟨callB_of 1 hg (gw_good m_606) rfl rfl rfl (hg _ m_71) (hg _ m_604) hd_Mo_isOdd ⟨Nat.le_of_ble_eq_true rfl, Nat.le_of_ble_eq_true rfl⟩, hg _ m_605⟩ (pw_S hK hN hT hA hP hD hS [] rfl (by decide)) rfl rfl hl.1 rfl (lv_room (Nat.le_of_ble_eq_true rfl)) d_Mo_holds_14 ⟨Nat.le_of_ble_eq_true rfl, Nat.le_of_ble_eq_true rfl⟩) (fun H locs hP hD hS => ?_)
  have hP : va_P D classes (W_Mo cI cL b0 b1 b2 b3 b4 b5 b6 b7 ev wr wg ke ma li ps pn cy ca va cn pp px go ne gi gn) H := hP
  have hD : va_D A (W_Mo cI cL b0 b1 b2 b3 b4 b5 b6 b7 ev wr wg ke ma li ps pn cy ca va cn pp px go ne gi gn) := hD
  refine lv_if_eq (tgt := 39) hx hb d_Mo_holds_17 (by decide) (fun h17 => ?_) (fun h17 => ?_)
  · refine lv_aload_n hx hb d_Mo_holds_39 rfl (lv_at hl 1 rfl) ?_
    refine va_get (ci := 5) (C := R_Mo) (T := F_Mo) (N := 18) hx hb hg in_Mo hown hK hP 0 rfl rfl 5 (by decide) (hg _ m_508) (fun _ h => h) rfl d_Mo_holds_40 ?_
    refine lv_iload_n hx hb d_Mo_holds_43 rfl (lv_at hl 0 rfl) ?_
    refine va_lald hx hb hK hP 5 1 rfl rfl (at_in h_cc h_w) d_Mo_holds_44 ?_
    refine lv_bipush (v := 36) hx hb d_Mo_holds_45 (by decide) ?_
    refine lv_lshr (v := u_lshr _ _) hx hb d_Mo_holds_47 rfl ?_
    refine lv_lconst (v := 1) hx hb d_Mo_holds_48 (by decide) ?_
    refine lv_land hx hb d_Mo_holds_49 ?_
    refine lv_lconst (v := 1) hx hb d_Mo_holds_50 (by decide) ?_
    refine W.lcmp hx hb d_Mo_holds_51 ?_
    refine lv_if_ne (tgt := 79) hx hb d_Mo_holds_52 (by decide) (fun h52 => ?_) (fun h52 => ?_)
    · refine lv_iconst (v := 0) hx hb d_Mo_holds_79 (by decide) ?_
      have hF : f_Mo_holds li cn cc w = _ := ((if_pos h17).trans (if_neg h52))
      rw [hF]
      exact W.zret hx hb hr rfl (fun t ht hW => ⟨⟨_, (), rfl, rfl, by show va_P D classes _ t.heap; rw [ht]; exact hP⟩, hS.F ht⟩) hS.2.2 d_Mo_holds_80 hlocks
    · refine lv_aload_n hx hb d_Mo_holds_55 rfl (lv_at hl 1 rfl) ?_
      refine va_get (ci := 5) (C := R_Mo) (T := F_Mo) (N := 18) hx hb hg in_Mo hown hK hP 0 rfl rfl 5 (by decide) (hg _ m_508) (fun _ h => h) rfl d_Mo_holds_56 ?_
      refine lv_iload_n hx hb d_Mo_holds_59 rfl (lv_at hl 0 rfl) ?_
      refine va_lald hx hb hK hP 5 1 rfl rfl (at_in h_cc h_w) d_Mo_holds_60 ?_
      refine lv_bipush (v := 32) hx hb d_Mo_holds_61 (by decide) ?_
      refine lv_lshr (v := u_lshr _ _) hx hb d_Mo_holds_63 rfl ?_
      refine lv_ldc2 hx hb hown (hg _ m_607) d_Mo_holds_64 ?_
      refine lv_land hx hb d_Mo_holds_67 ?_
      refine lv_l2i hx hb d_Mo_holds_68 rfl ?_
      refine lv_iload_n hx hb d_Mo_holds_69 rfl (lv_at hl 3 rfl) ?_
      refine lv_iconst (v := 4) hx hb d_Mo_holds_70 (by decide) ?_
      refine lv_idiv hx hb d_Mo_holds_71 (by decide) ?_
      refine lv_icmp_ne (tgt := 79) hx hb d_Mo_holds_72 (by decide) (fun h72 => ?_) (fun h72 => ?_)
      · refine lv_iconst (v := 0) hx hb d_Mo_holds_79 (by decide) ?_
        have hF : f_Mo_holds li cn cc w = _ := ((if_pos h17).trans ((if_pos h52).trans (if_neg h72)))
        rw [hF]
        exact W.zret hx hb hr rfl (fun t ht hW => ⟨⟨_, (), rfl, rfl, by show va_P D classes _ t.heap; rw [ht]; exact hP⟩, hS.F ht⟩) hS.2.2 d_Mo_holds_80 hlocks
      · refine lv_iconst (v := 1) hx hb d_Mo_holds_75 (by decide) ?_
        refine lv_goto (tgt := 80) hx hb d_Mo_holds_76 (by decide) ?_
        have hF : f_Mo_holds li cn cc w = _ := ((if_pos h17).trans ((if_pos h52).trans (if_pos h72)))
        rw [hF]
        exact W.zret hx hb hr rfl (fun t ht hW => ⟨⟨_, (), rfl, rfl, by show va_P D classes _ t.heap; rw [ht]; exact hP⟩, hS.F ht⟩) hS.2.2 d_Mo_holds_80 hlocks
  · refine lv_aload_n hx hb d_Mo_holds_20 rfl (lv_at hl 1 rfl) ?_
    refine va_get (ci := 5) (C := R_Mo) (T := F_Mo) (N := 18) hx hb hg in_Mo hown hK hP 0 rfl rfl 5 (by decide) (hg _ m_508) (fun _ h => h) rfl d_Mo_holds_21 ?_
    refine lv_iload_n hx hb d_Mo_holds_24 rfl (lv_at hl 0 rfl) ?_
    refine lv_lconst (v := 0) hx hb d_Mo_holds_25 (by decide) ?_
    refine va_last hx hb hK hP hD hS 5 1 rfl rfl (at_in h_cc h_w) d_Mo_holds_26 (fun H locs hP hD hS => ?_)
    have hP : va_P D classes (W_Mo cI cL b0 b1 b2 b3 b4 b5 b6 b7 ev wr wg ke ma (vp_updL li (((4 : Int32) * cc) + (u_rem w (4 : Int32))).toNatClampNeg (0 : Int64)) ps pn cy ca va cn pp px go ne gi gn) H := hP
    have hD : va_D A (W_Mo cI cL b0 b1 b2 b3 b4 b5 b6 b7 ev wr wg ke ma (vp_updL li (((4 : Int32) * cc) + (u_rem w (4 : Int32))).toNatClampNeg (0 : Int64)) ps pn cy ca va cn pp px go ne gi gn) := hD
    refine lv_aload_n hx hb d_Mo_holds_27 rfl (lv_at hl 1 rfl) ?_
    refine va_get (ci := 5) (C := R_Mo) (T := F_Mo) (N := 18) hx hb hg in_Mo hown hK hP 0 rfl rfl 11 (by decide) (hg _ m_514) (fun _ h => h) rfl d_Mo_holds_28 ?_
    refine lv_iconst (v := 3) hx hb d_Mo_holds_31 (by decide) ?_
    refine lv_iload_n hx hb d_Mo_holds_32 rfl (lv_at hl 2 rfl) ?_
    refine lv_iadd hx hb d_Mo_holds_33 ?_
    refine lv_dup2_11 hx hb d_Mo_holds_34 rfl rfl ?_
    refine va_iald hx hb hK hP 7 0 rfl rfl (cn_in h_cc) d_Mo_holds_35 ?_
    refine lv_iconst (v := 1) hx hb d_Mo_holds_36 (by decide) ?_
    refine lv_iadd hx hb d_Mo_holds_37 ?_
    refine va_iast hx hb hK hP hD hS 7 0 rfl rfl (cn_in h_cc) d_Mo_holds_38 (fun H locs hP hD hS => ?_)
    have hP : va_P D classes (W_Mo cI cL b0 b1 b2 b3 b4 b5 b6 b7 ev wr wg ke ma (vp_updL li (((4 : Int32) * cc) + (u_rem w (4 : Int32))).toNatClampNeg (0 : Int64)) ps pn cy ca va (upd cn ((3 : Int32) + cc).toNatClampNeg ((cn ((3 : Int32) + cc).toNatClampNeg) + (1 : Int32))) pp px go ne gi gn) H := hP
    have hD : va_D A (W_Mo cI cL b0 b1 b2 b3 b4 b5 b6 b7 ev wr wg ke ma (vp_updL li (((4 : Int32) * cc) + (u_rem w (4 : Int32))).toNatClampNeg (0 : Int64)) ps pn cy ca va (upd cn ((3 : Int32) + cc).toNatClampNeg ((cn ((3 : Int32) + cc).toNatClampNeg) + (1 : Int32))) pp px go ne gi gn) := hD
    refine lv_aload_n hx hb d_Mo_holds_39 rfl (lv_at hl 1 rfl) ?_
    refine va_get (ci := 5) (C := R_Mo) (T := F_Mo) (N := 18) hx hb hg in_Mo hown hK hP 0 rfl rfl 5 (by decide) (hg _ m_508) (fun _ h => h) rfl d_Mo_holds_40 ?_
    refine lv_iload_n hx hb d_Mo_holds_43 rfl (lv_at hl 0 rfl) ?_
    refine va_lald hx hb hK hP 5 1 rfl rfl (at_in h_cc h_w) d_Mo_holds_44 ?_
    refine lv_bipush (v := 36) hx hb d_Mo_holds_45 (by decide) ?_
    refine lv_lshr (v := u_lshr _ _) hx hb d_Mo_holds_47 rfl ?_
    refine lv_lconst (v := 1) hx hb d_Mo_holds_48 (by decide) ?_
    refine lv_land hx hb d_Mo_holds_49 ?_
    refine lv_lconst (v := 1) hx hb d_Mo_holds_50 (by decide) ?_
    refine W.lcmp hx hb d_Mo_holds_51 ?_
    refine lv_if_ne (tgt := 79) hx hb d_Mo_holds_52 (by decide) (fun h52 => ?_) (fun h52 => ?_)
    · refine lv_iconst (v := 0) hx hb d_Mo_holds_79 (by decide) ?_
      have hF : f_Mo_holds li cn cc w = _ := ((if_neg h17).trans (if_neg h52))
      rw [hF]
      exact W.zret hx hb hr rfl (fun t ht hW => ⟨⟨_, (), rfl, rfl, by show va_P D classes _ t.heap; rw [ht]; exact hP⟩, hS.F ht⟩) hS.2.2 d_Mo_holds_80 hlocks
    · refine lv_aload_n hx hb d_Mo_holds_55 rfl (lv_at hl 1 rfl) ?_
      refine va_get (ci := 5) (C := R_Mo) (T := F_Mo) (N := 18) hx hb hg in_Mo hown hK hP 0 rfl rfl 5 (by decide) (hg _ m_508) (fun _ h => h) rfl d_Mo_holds_56 ?_
      refine lv_iload_n hx hb d_Mo_holds_59 rfl (lv_at hl 0 rfl) ?_
      refine va_lald hx hb hK hP 5 1 rfl rfl (at_in h_cc h_w) d_Mo_holds_60 ?_
      refine lv_bipush (v := 32) hx hb d_Mo_holds_61 (by decide) ?_
      refine lv_lshr (v := u_lshr _ _) hx hb d_Mo_holds_63 rfl ?_
      refine lv_ldc2 hx hb hown (hg _ m_607) d_Mo_holds_64 ?_
      refine lv_land hx hb d_Mo_holds_67 ?_
      refine lv_l2i hx hb d_Mo_holds_68 rfl ?_
      refine lv_iload_n hx hb d_Mo_holds_69 rfl (lv_at hl 3 rfl) ?_
      refine lv_iconst (v := 4) hx hb d_Mo_holds_70 (by decide) ?_
      refine lv_idiv hx hb d_Mo_holds_71 (by decide) ?_
      refine lv_icmp_ne (tgt := 79) hx hb d_Mo_holds_72 (by decide) (fun h72 => ?_) (fun h72 => ?_)
      · refine lv_iconst (v := 0) hx hb d_Mo_holds_79 (by decide) ?_
        have hF : f_Mo_holds li cn cc w = _ := ((if_neg h17).trans ((if_pos h52).trans (if_neg h72)))
        rw [hF]
        exact W.zret hx hb hr rfl (fun t ht hW => ⟨⟨_, (), rfl, rfl, by show va_P D classes _ t.heap; rw [ht]; exact hP⟩, hS.F ht⟩) hS.2.2 d_Mo_holds_80 hlocks
      · refine lv_iconst (v := 1) hx hb d_Mo_holds_75 (by decide) ?_
        refine lv_goto (tgt := 80) hx hb d_Mo_holds_76 (by decide) ?_
        have hF : f_Mo_holds li cn cc w = _ := ((if_neg h17).trans ((if_pos h52).trans (if_pos h72)))
        rw [hF]
        exact W.zret hx hb hr rfl (fun t ht hW => ⟨⟨_, (), rfl, rfl, by show va_P D classes _ t.heap; rw [ht]; exact hP⟩, hS.F ht⟩) hS.2.2 d_Mo_holds_80 hlocks
abbrev q_Mo_fetch (D : va_G) (cI cL : ClassId) (b0 b1 b2 b3 b4 b5 b6 b7 : Nat) (A : Nat → Prop) (ev : Int32) (wr : Nat → Int32) (wg : Nat → Int64) (ke : Nat → Int32) (ma : Nat → Int32) (li : Nat → Int64) (ps : Int32) (pn : Nat → Int32) (cy : Int32) (ca : Int32) (va : Int32) (cn : Nat → Int32) (pp : Int32) (px : Int32) (go : Int32) (ne : Int32) (gi : Int32) (gn : Int32) (F : Int32 × (Nat → Int64) × (Nat → Int64) × Int32 × Int32 × (Nat → Int32) × Int32) : Array Value → State → Outcome → State → Prop := va_Qi (fun r (_ : Unit) => r = F.1) (fun _ t => va_P D classes (W_Mo cI cL b0 b1 b2 b3 b4 b5 b6 b7 ev wr F.2.1 ke ma F.2.2.1 ps pn cy F.2.2.2.1 F.2.2.2.2.1 F.2.2.2.2.2.1 pp px F.2.2.2.2.2.2 ne gi gn) t.heap) A
set_option maxHeartbeats 4000000 in
set_option maxRecDepth 100000 in
theorem c_Mo_fetch (l : Launch) (D : va_G) (cI cL : ClassId) (b0 b1 b2 b3 b4 b5 b6 b7 : Nat) (sz : Nat) (ev : Int32) (wr : Nat → Int32) (wg : Nat → Int64) (ke : Nat → Int32) (ma : Nat → Int32) (li : Nat → Int64) (ps : Int32) (pn : Nat → Int32) (cy : Int32) (ca : Int32) (va : Int32) (cn : Nat → Int32) (pp : Int32) (px : Int32) (go : Int32) (ne : Int32) (gi : Int32) (gn : Int32) (cc : Int32) (w : Int32) (h_cc : vp_in cc 2) (h_w : vp_in w 64) : Met l y_Mo_fetch w_Mo_fetch ({ frames := 3, cells := 0, slots := 0, locals := 67 }) (va_Pc [.ref b0, .int cc, .int w] (PW D cI cL (W_Mo cI cL b0 b1 b2 b3 b4 b5 b6 b7 ev wr wg ke ma li ps pn cy ca va cn pp px go ne gi gn) sz)) (q_Mo_fetch D cI cL b0 b1 b2 b3 b4 b5 b6 b7 (va_A (W_Mo cI cL b0 b1 b2 b3 b4 b5 b6 b7 ev wr wg ke ma li ps pn cy ca va cn pp px go ne gi gn) sz) ev wr wg ke ma li ps pn cy ca va cn pp px go ne gi gn (f_Mo_fetch wr wg li ca va cn go cc w)) 0 0 (va_A (W_Mo cI cL b0 b1 b2 b3 b4 b5 b6 b7 ev wr wg ke ma li ps pn cy ca va cn pp px go ne gi gn) sz) := by
  refine mk_met (Qf := fun A => q_Mo_fetch D cI cL b0 b1 b2 b3 b4 b5 b6 b7 A ev wr wg ke ma li ps pn cy ca va cn pp px go ne gi gn (f_Mo_fetch wr wg li ca va cn go cc w)) (by decide) (Nat.le_of_ble_eq_true rfl) ?_
  intro p e s m below meth c A ls hx hb hr hlocks hml hown hg hK hN hT hA hP hD hS hnm hl
  refine lv_iconst (v := 4) hx hb d_Mo_fetch_0 (by decide) ?_
  refine lv_iload_n hx hb d_Mo_fetch_1 rfl (lv_at hl 1 rfl) ?_
  refine lv_imul hx hb d_Mo_fetch_2 ?_
  refine lv_iload_n hx hb d_Mo_fetch_3 rfl (lv_at hl 2 rfl) ?_
  refine lv_iconst (v := 4) hx hb d_Mo_fetch_4 (by decide) ?_
  refine lv_irem hx hb d_Mo_fetch_5 (by decide) ?_
  refine lv_iadd hx hb d_Mo_fetch_6 ?_
  refine lv_istore_n (lv' := [(3, .int _), (0, .ref _), (1, .int _), (2, .int _)]) hx hb d_Mo_fetch_7 rfl hl (by decide) rfl (fun ls hl => ?_)
  refine lv_aload_n hx hb d_Mo_fetch_8 rfl (lv_at hl 1 rfl) ?_
  refine lv_iload_n hx hb d_Mo_fetch_9 rfl (lv_at hl 2 rfl) ?_
  refine lv_iload_n hx hb d_Mo_fetch_10 rfl (lv_at hl 3 rfl) ?_
  refine cj_i (wc := (W_Mo cI cL b0 b1 b2 b3 b4 b5 b6 b7 ev wr wg ke ma li ps pn cy ca va cn pp px go ne gi gn)) (w1 := (W_Mo cI cL b0 b1 b2 b3 b4 b5 b6 b7 ev wr wg ke ma ((f_Mo_holds li cn cc w).2.1) ps pn cy ca va ((f_Mo_holds li cn cc w).2.2) pp px go ne gi gn)) hP hD hS hA [0, 1, 2, 3, 4, 5, 6, 7] rfl rfl (va_runV (rest := []) ⟨hx, hb, hml, hown, hg⟩ (c_Mo_holds l D cI cL b0 b1 b2 b3 b4 b5 b6 b7 _ ev wr wg ke ma li ps pn cy ca va cn pp px go ne gi gn cc w h_cc h_w) ⟨callB_of 2 hg (gw_good m_603) rfl rfl rfl (hg _ m_71) (hg _ m_600) hd_Mo_holds ⟨Nat.le_of_ble_eq_true rfl, Nat.le_of_ble_eq_true rfl⟩, hg _ m_602, hg _ m_42⟩ (pw_V hK hN hT hA hP hD hS [0, 1, 2, 3, 4, 5, 6, 7] rfl (by decide) (q0 := 0) (ci := 5) rfl rfl) rfl rfl hl.1 rfl (lv_room (Nat.le_of_ble_eq_true rfl)) d_Mo_fetch_11 ⟨Nat.le_of_ble_eq_true rfl, Nat.le_of_ble_eq_true rfl⟩) (fun H locs hP hD hS => ?_)
  have hP : va_P D classes (W_Mo cI cL b0 b1 b2 b3 b4 b5 b6 b7 ev wr wg ke ma ((f_Mo_holds li cn cc w).2.1) ps pn cy ca va ((f_Mo_holds li cn cc w).2.2) pp px go ne gi gn) H := hP
  have hD : va_D A (W_Mo cI cL b0 b1 b2 b3 b4 b5 b6 b7 ev wr wg ke ma ((f_Mo_holds li cn cc w).2.1) ps pn cy ca va ((f_Mo_holds li cn cc w).2.2) pp px go ne gi gn) := hD
  refine lv_if_ne (tgt := 61) hx hb d_Mo_fetch_14 (by decide) (fun h14 => ?_) (fun h14 => ?_)
  · refine lv_aload_n hx hb d_Mo_fetch_61 rfl (lv_at hl 1 rfl) ?_
    refine lv_aload_n hx hb d_Mo_fetch_62 rfl (lv_at hl 1 rfl) ?_
    refine va_get (ci := 5) (C := R_Mo) (T := F_Mo) (N := 18) hx hb hg in_Mo hown hK hP 0 rfl rfl 5 (by decide) (hg _ m_508) (fun _ h => h) rfl d_Mo_fetch_63 ?_
    refine lv_iload_n hx hb d_Mo_fetch_66 rfl (lv_at hl 0 rfl) ?_
    refine va_lald hx hb hK hP 5 1 rfl rfl (at_in h_cc h_w) d_Mo_fetch_67 ?_
    refine lv_l2i hx hb d_Mo_fetch_68 rfl ?_
    refine va_put (ci := 5) (ty := .int) (C := R_Mo) (T := F_Mo) (N := 18) hx hb hg in_Mo t_Mo t_Mo_ok n_Mo hown hK hP hD hS 0 rfl rfl 14 (by decide) (hg _ m_517) (fun _ h => h) rfl (by decide +kernel) rfl rfl (Nat.le_of_ble_eq_true rfl) d_Mo_fetch_69 (fun H locs hP hD hS => ?_)
    have hP : va_P D classes (W_Mo cI cL b0 b1 b2 b3 b4 b5 b6 b7 ev wr wg ke ma ((f_Mo_holds li cn cc w).2.1) ps pn cy ca va ((f_Mo_holds li cn cc w).2.2) pp px (((f_Mo_holds li cn cc w).2.1 (((4 : Int32) * cc) + (u_rem w (4 : Int32))).toNatClampNeg).toInt32) ne gi gn) H := hP
    have hD : va_D A (W_Mo cI cL b0 b1 b2 b3 b4 b5 b6 b7 ev wr wg ke ma ((f_Mo_holds li cn cc w).2.1) ps pn cy ca va ((f_Mo_holds li cn cc w).2.2) pp px (((f_Mo_holds li cn cc w).2.1 (((4 : Int32) * cc) + (u_rem w (4 : Int32))).toNatClampNeg).toInt32) ne gi gn) := hD
    refine lv_iconst (v := 1) hx hb d_Mo_fetch_72 (by decide) ?_
    have hF : f_Mo_fetch wr wg li ca va cn go cc w = _ := (if_neg h14)
    rw [hF]
    exact W.zret hx hb hr rfl (fun t ht hW => ⟨⟨_, (), rfl, rfl, by show va_P D classes _ t.heap; rw [ht]; exact hP⟩, hS.F ht⟩) hS.2.2 d_Mo_fetch_73 hlocks
  · refine lv_aload_n hx hb d_Mo_fetch_17 rfl (lv_at hl 1 rfl) ?_
    refine lv_iload_n hx hb d_Mo_fetch_18 rfl (lv_at hl 3 rfl) ?_
    refine cj_i (wc := (W_Mo cI cL b0 b1 b2 b3 b4 b5 b6 b7 ev wr wg ke ma ((f_Mo_holds li cn cc w).2.1) ps pn cy ca va ((f_Mo_holds li cn cc w).2.2) pp px go ne gi gn)) (w1 := (W_Mo cI cL b0 b1 b2 b3 b4 b5 b6 b7 ev wr ((f_Mo_mend wg (f_Mo_holds li cn cc w).2.2 w).2.1) ke ma ((f_Mo_holds li cn cc w).2.1) ps pn cy ca va ((f_Mo_mend wg (f_Mo_holds li cn cc w).2.2 w).2.2) pp px go ne gi gn)) hP hD hS hA [0, 1, 2, 3, 4, 5, 6, 7] rfl rfl (va_runV (rest := []) ⟨hx, hb, hml, hown, hg⟩ (c_Mo_mend l D cI cL b0 b1 b2 b3 b4 b5 b6 b7 _ ev wr wg ke ma ((f_Mo_holds li cn cc w).2.1) ps pn cy ca va ((f_Mo_holds li cn cc w).2.2) pp px go ne gi gn w h_w) ⟨callB_of 1 hg (gw_good m_611) rfl rfl rfl (hg _ m_71) (hg _ m_608) hd_Mo_mend ⟨Nat.le_of_ble_eq_true rfl, Nat.le_of_ble_eq_true rfl⟩, hg _ m_610, hg _ m_43⟩ (pw_V hK hN hT hA hP hD hS [0, 1, 2, 3, 4, 5, 6, 7] rfl (by decide) (q0 := 0) (ci := 5) rfl rfl) rfl rfl hl.1 rfl (lv_room (Nat.le_of_ble_eq_true rfl)) d_Mo_fetch_19 ⟨Nat.le_of_ble_eq_true rfl, Nat.le_of_ble_eq_true rfl⟩) (fun H locs hP hD hS => ?_)
    have hP : va_P D classes (W_Mo cI cL b0 b1 b2 b3 b4 b5 b6 b7 ev wr ((f_Mo_mend wg (f_Mo_holds li cn cc w).2.2 w).2.1) ke ma ((f_Mo_holds li cn cc w).2.1) ps pn cy ca va ((f_Mo_mend wg (f_Mo_holds li cn cc w).2.2 w).2.2) pp px go ne gi gn) H := hP
    have hD : va_D A (W_Mo cI cL b0 b1 b2 b3 b4 b5 b6 b7 ev wr ((f_Mo_mend wg (f_Mo_holds li cn cc w).2.2 w).2.1) ke ma ((f_Mo_holds li cn cc w).2.1) ps pn cy ca va ((f_Mo_mend wg (f_Mo_holds li cn cc w).2.2 w).2.2) pp px go ne gi gn) := hD
    refine lv_if_ne (tgt := 33) hx hb d_Mo_fetch_22 (by decide) (fun h22 => ?_) (fun h22 => ?_)
    · refine lv_aload_n hx hb d_Mo_fetch_33 rfl (lv_at hl 1 rfl) ?_
      refine va_get (ci := 5) (C := R_Mo) (T := F_Mo) (N := 18) hx hb hg in_Mo hown hK hP 0 rfl rfl 5 (by decide) (hg _ m_508) (fun _ h => h) rfl d_Mo_fetch_34 ?_
      refine lv_iload_n hx hb d_Mo_fetch_37 rfl (lv_at hl 0 rfl) ?_
      refine lv_aload_n hx hb d_Mo_fetch_38 rfl (lv_at hl 1 rfl) ?_
      refine va_get (ci := 5) (C := R_Mo) (T := F_Mo) (N := 18) hx hb hg in_Mo hown hK hP 0 rfl rfl 1 (by decide) (hg _ m_504) (fun _ h => h) rfl d_Mo_fetch_39 ?_
      refine lv_iload_n hx hb d_Mo_fetch_42 rfl (lv_at hl 3 rfl) ?_
      refine va_iald hx hb hK hP 1 0 rfl rfl h_w d_Mo_fetch_43 ?_
      refine lv_aload_n hx hb d_Mo_fetch_44 rfl (lv_at hl 1 rfl) ?_
      refine va_get (ci := 5) (C := R_Mo) (T := F_Mo) (N := 18) hx hb hg in_Mo hown hK hP 0 rfl rfl 2 (by decide) (hg _ m_505) (fun _ h => h) rfl d_Mo_fetch_45 ?_
      refine lv_iload_n hx hb d_Mo_fetch_48 rfl (lv_at hl 3 rfl) ?_
      refine va_lald hx hb hK hP 2 1 rfl rfl h_w d_Mo_fetch_49 ?_
      refine cj_i (wc := []) (w1 := []) hP hD hS hA [] rfl rfl (va_runS (rest := [.int _, .int _, .ref _]) ⟨hx, hb, hml, hown, hg⟩ (c_Mo_dataOf l D cI cL  _ ((f_Mo_mend wg (f_Mo_holds li cn cc w).2.2 w).2.1 w.toNatClampNeg)) ⟨callB_of 1 hg (gw_good m_620) rfl rfl rfl (hg _ m_71) (hg _ m_618) hd_Mo_dataOf ⟨Nat.le_of_ble_eq_true rfl, Nat.le_of_ble_eq_true rfl⟩, hg _ m_619⟩ (pw_S hK hN hT hA hP hD hS [] rfl (by decide)) rfl rfl hl.1 rfl (lv_room (Nat.le_of_ble_eq_true rfl)) d_Mo_fetch_50 ⟨Nat.le_of_ble_eq_true rfl, Nat.le_of_ble_eq_true rfl⟩) (fun H locs hP hD hS => ?_)
      have hP : va_P D classes (W_Mo cI cL b0 b1 b2 b3 b4 b5 b6 b7 ev wr ((f_Mo_mend wg (f_Mo_holds li cn cc w).2.2 w).2.1) ke ma ((f_Mo_holds li cn cc w).2.1) ps pn cy ca va ((f_Mo_mend wg (f_Mo_holds li cn cc w).2.2 w).2.2) pp px go ne gi gn) H := hP
      have hD : va_D A (W_Mo cI cL b0 b1 b2 b3 b4 b5 b6 b7 ev wr ((f_Mo_mend wg (f_Mo_holds li cn cc w).2.2 w).2.1) ke ma ((f_Mo_holds li cn cc w).2.1) ps pn cy ca va ((f_Mo_mend wg (f_Mo_holds li cn cc w).2.2 w).2.2) pp px go ne gi gn) := hD
      refine lv_ixor hx hb d_Mo_fetch_53 ?_
      refine lv_iload_n hx hb d_Mo_fetch_54 rfl (lv_at hl 3 rfl) ?_
      refine lv_iconst (v := 4) hx hb d_Mo_fetch_55 (by decide) ?_
      refine lv_idiv hx hb d_Mo_fetch_56 (by decide) ?_
      refine cj_l (wc := []) (w1 := []) hP hD hS hA [] rfl rfl (va_runS (rest := [.int _, .ref _]) ⟨hx, hb, hml, hown, hg⟩ (c_Mo_line l D cI cL  _ ((wr w.toNatClampNeg) ^^^ (f_Mo_dataOf ((f_Mo_mend wg (f_Mo_holds li cn cc w).2.2 w).2.1 w.toNatClampNeg))) (w / (4 : Int32))) ⟨callB_of 2 hg (gw_good m_626) rfl rfl rfl (hg _ m_71) (hg _ m_624) hd_Mo_line ⟨Nat.le_of_ble_eq_true rfl, Nat.le_of_ble_eq_true rfl⟩, hg _ m_625⟩ (pw_S hK hN hT hA hP hD hS [] rfl (by decide)) rfl rfl hl.1 rfl (lv_room (Nat.le_of_ble_eq_true rfl)) d_Mo_fetch_57 ⟨Nat.le_of_ble_eq_true rfl, Nat.le_of_ble_eq_true rfl⟩) (fun H locs hP hD hS => ?_)
      have hP : va_P D classes (W_Mo cI cL b0 b1 b2 b3 b4 b5 b6 b7 ev wr ((f_Mo_mend wg (f_Mo_holds li cn cc w).2.2 w).2.1) ke ma ((f_Mo_holds li cn cc w).2.1) ps pn cy ca va ((f_Mo_mend wg (f_Mo_holds li cn cc w).2.2 w).2.2) pp px go ne gi gn) H := hP
      have hD : va_D A (W_Mo cI cL b0 b1 b2 b3 b4 b5 b6 b7 ev wr ((f_Mo_mend wg (f_Mo_holds li cn cc w).2.2 w).2.1) ke ma ((f_Mo_holds li cn cc w).2.1) ps pn cy ca va ((f_Mo_mend wg (f_Mo_holds li cn cc w).2.2 w).2.2) pp px go ne gi gn) := hD
      refine va_last hx hb hK hP hD hS 5 1 rfl rfl (at_in h_cc h_w) d_Mo_fetch_60 (fun H locs hP hD hS => ?_)
      have hP : va_P D classes (W_Mo cI cL b0 b1 b2 b3 b4 b5 b6 b7 ev wr ((f_Mo_mend wg (f_Mo_holds li cn cc w).2.2 w).2.1) ke ma (vp_updL (f_Mo_holds li cn cc w).2.1 (((4 : Int32) * cc) + (u_rem w (4 : Int32))).toNatClampNeg (f_Mo_line ((wr w.toNatClampNeg) ^^^ (f_Mo_dataOf ((f_Mo_mend wg (f_Mo_holds li cn cc w).2.2 w).2.1 w.toNatClampNeg))) (w / (4 : Int32)))) ps pn cy ca va ((f_Mo_mend wg (f_Mo_holds li cn cc w).2.2 w).2.2) pp px go ne gi gn) H := hP
      have hD : va_D A (W_Mo cI cL b0 b1 b2 b3 b4 b5 b6 b7 ev wr ((f_Mo_mend wg (f_Mo_holds li cn cc w).2.2 w).2.1) ke ma (vp_updL (f_Mo_holds li cn cc w).2.1 (((4 : Int32) * cc) + (u_rem w (4 : Int32))).toNatClampNeg (f_Mo_line ((wr w.toNatClampNeg) ^^^ (f_Mo_dataOf ((f_Mo_mend wg (f_Mo_holds li cn cc w).2.2 w).2.1 w.toNatClampNeg))) (w / (4 : Int32)))) ps pn cy ca va ((f_Mo_mend wg (f_Mo_holds li cn cc w).2.2 w).2.2) pp px go ne gi gn) := hD
      refine lv_aload_n hx hb d_Mo_fetch_61 rfl (lv_at hl 1 rfl) ?_
      refine lv_aload_n hx hb d_Mo_fetch_62 rfl (lv_at hl 1 rfl) ?_
      refine va_get (ci := 5) (C := R_Mo) (T := F_Mo) (N := 18) hx hb hg in_Mo hown hK hP 0 rfl rfl 5 (by decide) (hg _ m_508) (fun _ h => h) rfl d_Mo_fetch_63 ?_
      refine lv_iload_n hx hb d_Mo_fetch_66 rfl (lv_at hl 0 rfl) ?_
      refine va_lald hx hb hK hP 5 1 rfl rfl (at_in h_cc h_w) d_Mo_fetch_67 ?_
      refine lv_l2i hx hb d_Mo_fetch_68 rfl ?_
      refine va_put (ci := 5) (ty := .int) (C := R_Mo) (T := F_Mo) (N := 18) hx hb hg in_Mo t_Mo t_Mo_ok n_Mo hown hK hP hD hS 0 rfl rfl 14 (by decide) (hg _ m_517) (fun _ h => h) rfl (by decide +kernel) rfl rfl (Nat.le_of_ble_eq_true rfl) d_Mo_fetch_69 (fun H locs hP hD hS => ?_)
      have hP : va_P D classes (W_Mo cI cL b0 b1 b2 b3 b4 b5 b6 b7 ev wr ((f_Mo_mend wg (f_Mo_holds li cn cc w).2.2 w).2.1) ke ma (vp_updL (f_Mo_holds li cn cc w).2.1 (((4 : Int32) * cc) + (u_rem w (4 : Int32))).toNatClampNeg (f_Mo_line ((wr w.toNatClampNeg) ^^^ (f_Mo_dataOf ((f_Mo_mend wg (f_Mo_holds li cn cc w).2.2 w).2.1 w.toNatClampNeg))) (w / (4 : Int32)))) ps pn cy ca va ((f_Mo_mend wg (f_Mo_holds li cn cc w).2.2 w).2.2) pp px (((vp_updL (f_Mo_holds li cn cc w).2.1 (((4 : Int32) * cc) + (u_rem w (4 : Int32))).toNatClampNeg (f_Mo_line ((wr w.toNatClampNeg) ^^^ (f_Mo_dataOf ((f_Mo_mend wg (f_Mo_holds li cn cc w).2.2 w).2.1 w.toNatClampNeg))) (w / (4 : Int32)))) (((4 : Int32) * cc) + (u_rem w (4 : Int32))).toNatClampNeg).toInt32) ne gi gn) H := hP
      have hD : va_D A (W_Mo cI cL b0 b1 b2 b3 b4 b5 b6 b7 ev wr ((f_Mo_mend wg (f_Mo_holds li cn cc w).2.2 w).2.1) ke ma (vp_updL (f_Mo_holds li cn cc w).2.1 (((4 : Int32) * cc) + (u_rem w (4 : Int32))).toNatClampNeg (f_Mo_line ((wr w.toNatClampNeg) ^^^ (f_Mo_dataOf ((f_Mo_mend wg (f_Mo_holds li cn cc w).2.2 w).2.1 w.toNatClampNeg))) (w / (4 : Int32)))) ps pn cy ca va ((f_Mo_mend wg (f_Mo_holds li cn cc w).2.2 w).2.2) pp px (((vp_updL (f_Mo_holds li cn cc w).2.1 (((4 : Int32) * cc) + (u_rem w (4 : Int32))).toNatClampNeg (f_Mo_line ((wr w.toNatClampNeg) ^^^ (f_Mo_dataOf ((f_Mo_mend wg (f_Mo_holds li cn cc w).2.2 w).2.1 w.toNatClampNeg))) (w / (4 : Int32)))) (((4 : Int32) * cc) + (u_rem w (4 : Int32))).toNatClampNeg).toInt32) ne gi gn) := hD
      refine lv_iconst (v := 1) hx hb d_Mo_fetch_72 (by decide) ?_
      have hF : f_Mo_fetch wr wg li ca va cn go cc w = _ := ((if_pos h14).trans (if_neg h22))
      rw [hF]
      exact W.zret hx hb hr rfl (fun t ht hW => ⟨⟨_, (), rfl, rfl, by show va_P D classes _ t.heap; rw [ht]; exact hP⟩, hS.F ht⟩) hS.2.2 d_Mo_fetch_73 hlocks
    · refine lv_aload_n hx hb d_Mo_fetch_25 rfl (lv_at hl 1 rfl) ?_
      refine lv_iconst (v := 5) hx hb d_Mo_fetch_26 (by decide) ?_
      refine lv_iload_n hx hb d_Mo_fetch_27 rfl (lv_at hl 3 rfl) ?_
      refine cj_v (wc := (W_Mo cI cL b0 b1 b2 b3 b4 b5 b6 b7 ev wr ((f_Mo_mend wg (f_Mo_holds li cn cc w).2.2 w).2.1) ke ma ((f_Mo_holds li cn cc w).2.1) ps pn cy ca va ((f_Mo_mend wg (f_Mo_holds li cn cc w).2.2 w).2.2) pp px go ne gi gn)) (w1 := (W_Mo cI cL b0 b1 b2 b3 b4 b5 b6 b7 ev wr ((f_Mo_mend wg (f_Mo_holds li cn cc w).2.2 w).2.1) ke ma ((f_Mo_holds li cn cc w).2.1) ps pn cy ((f_Mo_stop ca va (5 : Int32) w).1) ((f_Mo_stop ca va (5 : Int32) w).2) ((f_Mo_mend wg (f_Mo_holds li cn cc w).2.2 w).2.2) pp px go ne gi gn)) hP hD hS hA [0, 1, 2, 3, 4, 5, 6, 7] rfl rfl (va_runV (rest := []) ⟨hx, hb, hml, hown, hg⟩ (c_Mo_stop l D cI cL b0 b1 b2 b3 b4 b5 b6 b7 _ ev wr ((f_Mo_mend wg (f_Mo_holds li cn cc w).2.2 w).2.1) ke ma ((f_Mo_holds li cn cc w).2.1) ps pn cy ca va ((f_Mo_mend wg (f_Mo_holds li cn cc w).2.2 w).2.2) pp px go ne gi gn (5 : Int32) w) ⟨callB_of 2 hg (gw_good m_595) rfl rfl rfl (hg _ m_71) (hg _ m_592) hd_Mo_stop ⟨Nat.le_of_ble_eq_true rfl, Nat.le_of_ble_eq_true rfl⟩, hg _ m_594, hg _ m_40⟩ (pw_V hK hN hT hA hP hD hS [0, 1, 2, 3, 4, 5, 6, 7] rfl (by decide) (q0 := 0) (ci := 5) rfl rfl) rfl rfl hl.1 rfl (lv_room (Nat.le_of_ble_eq_true rfl)) d_Mo_fetch_28 ⟨Nat.le_of_ble_eq_true rfl, Nat.le_of_ble_eq_true rfl⟩) (fun H locs hP hD hS => ?_)
      have hP : va_P D classes (W_Mo cI cL b0 b1 b2 b3 b4 b5 b6 b7 ev wr ((f_Mo_mend wg (f_Mo_holds li cn cc w).2.2 w).2.1) ke ma ((f_Mo_holds li cn cc w).2.1) ps pn cy ((f_Mo_stop ca va (5 : Int32) w).1) ((f_Mo_stop ca va (5 : Int32) w).2) ((f_Mo_mend wg (f_Mo_holds li cn cc w).2.2 w).2.2) pp px go ne gi gn) H := hP
      have hD : va_D A (W_Mo cI cL b0 b1 b2 b3 b4 b5 b6 b7 ev wr ((f_Mo_mend wg (f_Mo_holds li cn cc w).2.2 w).2.1) ke ma ((f_Mo_holds li cn cc w).2.1) ps pn cy ((f_Mo_stop ca va (5 : Int32) w).1) ((f_Mo_stop ca va (5 : Int32) w).2) ((f_Mo_mend wg (f_Mo_holds li cn cc w).2.2 w).2.2) pp px go ne gi gn) := hD
      refine lv_iconst (v := 0) hx hb d_Mo_fetch_31 (by decide) ?_
      have hF : f_Mo_fetch wr wg li ca va cn go cc w = _ := ((if_pos h14).trans (if_pos h22))
      rw [hF]
      exact W.zret hx hb hr rfl (fun t ht hW => ⟨⟨_, (), rfl, rfl, by show va_P D classes _ t.heap; rw [ht]; exact hP⟩, hS.F ht⟩) hS.2.2 d_Mo_fetch_32 hlocks
abbrev q_Mo_save (D : va_G) (cI cL : ClassId) (b0 b1 b2 b3 b4 b5 b6 b7 : Nat) (A : Nat → Prop) (ev : Int32) (wr : Nat → Int32) (wg : Nat → Int64) (ke : Nat → Int32) (ma : Nat → Int32) (li : Nat → Int64) (ps : Int32) (pn : Nat → Int32) (cy : Int32) (ca : Int32) (va : Int32) (cn : Nat → Int32) (pp : Int32) (px : Int32) (go : Int32) (ne : Int32) (gi : Int32) (gn : Int32) (F : (Nat → Int32) × (Nat → Int64) × (Nat → Int64) × (Nat → Int32)) : Array Value → State → Outcome → State → Prop := va_Qv (fun (_ : Unit) => True) (fun _ t => va_P D classes (W_Mo cI cL b0 b1 b2 b3 b4 b5 b6 b7 ev F.1 F.2.1 ke ma F.2.2.1 ps pn cy ca va F.2.2.2 pp px go ne gi gn) t.heap) A
set_option maxHeartbeats 4000000 in
set_option maxRecDepth 100000 in
theorem c_Mo_save (l : Launch) (D : va_G) (cI cL : ClassId) (b0 b1 b2 b3 b4 b5 b6 b7 : Nat) (sz : Nat) (ev : Int32) (wr : Nat → Int32) (wg : Nat → Int64) (ke : Nat → Int32) (ma : Nat → Int32) (li : Nat → Int64) (ps : Int32) (pn : Nat → Int32) (cy : Int32) (ca : Int32) (va : Int32) (cn : Nat → Int32) (pp : Int32) (px : Int32) (go : Int32) (ne : Int32) (gi : Int32) (gn : Int32) (w : Int32) (v : Int32) (h_w : vp_in w 64) : Met l y_Mo_save w_Mo_save ({ frames := 2, cells := 0, slots := 0, locals := 46 }) (va_Pc [.ref b0, .int w, .int v] (PW D cI cL (W_Mo cI cL b0 b1 b2 b3 b4 b5 b6 b7 ev wr wg ke ma li ps pn cy ca va cn pp px go ne gi gn) sz)) (q_Mo_save D cI cL b0 b1 b2 b3 b4 b5 b6 b7 (va_A (W_Mo cI cL b0 b1 b2 b3 b4 b5 b6 b7 ev wr wg ke ma li ps pn cy ca va cn pp px go ne gi gn) sz) ev wr wg ke ma li ps pn cy ca va cn pp px go ne gi gn (f_Mo_save wr wg li cn w v)) 0 0 (va_A (W_Mo cI cL b0 b1 b2 b3 b4 b5 b6 b7 ev wr wg ke ma li ps pn cy ca va cn pp px go ne gi gn) sz) := by
  refine mk_met (Qf := fun A => q_Mo_save D cI cL b0 b1 b2 b3 b4 b5 b6 b7 A ev wr wg ke ma li ps pn cy ca va cn pp px go ne gi gn (f_Mo_save wr wg li cn w v)) (by decide) (Nat.le_of_ble_eq_true rfl) ?_
  intro p e s m below meth c A ls hx hb hr hlocks hml hown hg hK hN hT hA hP hD hS hnm hl
  refine lv_aload_n hx hb d_Mo_save_0 rfl (lv_at hl 0 rfl) ?_
  refine lv_iload_n hx hb d_Mo_save_1 rfl (lv_at hl 1 rfl) ?_
  refine lv_iload_n hx hb d_Mo_save_2 rfl (lv_at hl 2 rfl) ?_
  refine cj_v (wc := (W_Mo cI cL b0 b1 b2 b3 b4 b5 b6 b7 ev wr wg ke ma li ps pn cy ca va cn pp px go ne gi gn)) (w1 := (W_Mo cI cL b0 b1 b2 b3 b4 b5 b6 b7 ev ((f_Mo_keep wr wg w v).1) ((f_Mo_keep wr wg w v).2) ke ma li ps pn cy ca va cn pp px go ne gi gn)) hP hD hS hA [0, 1, 2, 3, 4, 5, 6, 7] rfl rfl (va_runV (rest := []) ⟨hx, hb, hml, hown, hg⟩ (c_Mo_keep l D cI cL b0 b1 b2 b3 b4 b5 b6 b7 _ ev wr wg ke ma li ps pn cy ca va cn pp px go ne gi gn w v h_w) ⟨callB_of 2 hg (gw_good m_697) rfl rfl rfl (hg _ m_71) (hg _ m_694) hd_Mo_keep ⟨Nat.le_of_ble_eq_true rfl, Nat.le_of_ble_eq_true rfl⟩, hg _ m_696, hg _ m_59⟩ (pw_V hK hN hT hA hP hD hS [0, 1, 2, 3, 4, 5, 6, 7] rfl (by decide) (q0 := 0) (ci := 5) rfl rfl) rfl rfl hl.1 rfl (lv_room (Nat.le_of_ble_eq_true rfl)) d_Mo_save_3 ⟨Nat.le_of_ble_eq_true rfl, Nat.le_of_ble_eq_true rfl⟩) (fun H locs hP hD hS => ?_)
  have hP : va_P D classes (W_Mo cI cL b0 b1 b2 b3 b4 b5 b6 b7 ev ((f_Mo_keep wr wg w v).1) ((f_Mo_keep wr wg w v).2) ke ma li ps pn cy ca va cn pp px go ne gi gn) H := hP
  have hD : va_D A (W_Mo cI cL b0 b1 b2 b3 b4 b5 b6 b7 ev ((f_Mo_keep wr wg w v).1) ((f_Mo_keep wr wg w v).2) ke ma li ps pn cy ca va cn pp px go ne gi gn) := hD
  refine lv_aload_n hx hb d_Mo_save_6 rfl (lv_at hl 0 rfl) ?_
  refine lv_iconst (v := 0) hx hb d_Mo_save_7 (by decide) ?_
  refine lv_iload_n hx hb d_Mo_save_8 rfl (lv_at hl 1 rfl) ?_
  refine cj_i (wc := (W_Mo cI cL b0 b1 b2 b3 b4 b5 b6 b7 ev ((f_Mo_keep wr wg w v).1) ((f_Mo_keep wr wg w v).2) ke ma li ps pn cy ca va cn pp px go ne gi gn)) (w1 := (W_Mo cI cL b0 b1 b2 b3 b4 b5 b6 b7 ev ((f_Mo_keep wr wg w v).1) ((f_Mo_keep wr wg w v).2) ke ma ((f_Mo_holds li cn (0 : Int32) w).2.1) ps pn cy ca va ((f_Mo_holds li cn (0 : Int32) w).2.2) pp px go ne gi gn)) hP hD hS hA [0, 1, 2, 3, 4, 5, 6, 7] rfl rfl (va_runV (rest := []) ⟨hx, hb, hml, hown, hg⟩ (c_Mo_holds l D cI cL b0 b1 b2 b3 b4 b5 b6 b7 _ ev ((f_Mo_keep wr wg w v).1) ((f_Mo_keep wr wg w v).2) ke ma li ps pn cy ca va cn pp px go ne gi gn (0 : Int32) w (vp_ofb (by decide)) h_w) ⟨callB_of 2 hg (gw_good m_603) rfl rfl rfl (hg _ m_71) (hg _ m_600) hd_Mo_holds ⟨Nat.le_of_ble_eq_true rfl, Nat.le_of_ble_eq_true rfl⟩, hg _ m_602, hg _ m_42⟩ (pw_V hK hN hT hA hP hD hS [0, 1, 2, 3, 4, 5, 6, 7] rfl (by decide) (q0 := 0) (ci := 5) rfl rfl) rfl rfl hl.1 rfl (lv_room (Nat.le_of_ble_eq_true rfl)) d_Mo_save_9 ⟨Nat.le_of_ble_eq_true rfl, Nat.le_of_ble_eq_true rfl⟩) (fun H locs hP hD hS => ?_)
  have hP : va_P D classes (W_Mo cI cL b0 b1 b2 b3 b4 b5 b6 b7 ev ((f_Mo_keep wr wg w v).1) ((f_Mo_keep wr wg w v).2) ke ma ((f_Mo_holds li cn (0 : Int32) w).2.1) ps pn cy ca va ((f_Mo_holds li cn (0 : Int32) w).2.2) pp px go ne gi gn) H := hP
  have hD : va_D A (W_Mo cI cL b0 b1 b2 b3 b4 b5 b6 b7 ev ((f_Mo_keep wr wg w v).1) ((f_Mo_keep wr wg w v).2) ke ma ((f_Mo_holds li cn (0 : Int32) w).2.1) ps pn cy ca va ((f_Mo_holds li cn (0 : Int32) w).2.2) pp px go ne gi gn) := hD
  refine lv_if_eq (tgt := 24) hx hb d_Mo_save_12 (by decide) (fun h12 => ?_) (fun h12 => ?_)
  · refine lv_aload_n hx hb d_Mo_save_24 rfl (lv_at hl 0 rfl) ?_
    refine lv_iconst (v := 1) hx hb d_Mo_save_25 (by decide) ?_
    refine lv_iload_n hx hb d_Mo_save_26 rfl (lv_at hl 1 rfl) ?_
    refine cj_i (wc := (W_Mo cI cL b0 b1 b2 b3 b4 b5 b6 b7 ev ((f_Mo_keep wr wg w v).1) ((f_Mo_keep wr wg w v).2) ke ma ((f_Mo_holds li cn (0 : Int32) w).2.1) ps pn cy ca va ((f_Mo_holds li cn (0 : Int32) w).2.2) pp px go ne gi gn)) (w1 := (W_Mo cI cL b0 b1 b2 b3 b4 b5 b6 b7 ev ((f_Mo_keep wr wg w v).1) ((f_Mo_keep wr wg w v).2) ke ma ((f_Mo_holds (f_Mo_holds li cn (0 : Int32) w).2.1 (f_Mo_holds li cn (0 : Int32) w).2.2 (1 : Int32) w).2.1) ps pn cy ca va ((f_Mo_holds (f_Mo_holds li cn (0 : Int32) w).2.1 (f_Mo_holds li cn (0 : Int32) w).2.2 (1 : Int32) w).2.2) pp px go ne gi gn)) hP hD hS hA [0, 1, 2, 3, 4, 5, 6, 7] rfl rfl (va_runV (rest := []) ⟨hx, hb, hml, hown, hg⟩ (c_Mo_holds l D cI cL b0 b1 b2 b3 b4 b5 b6 b7 _ ev ((f_Mo_keep wr wg w v).1) ((f_Mo_keep wr wg w v).2) ke ma ((f_Mo_holds li cn (0 : Int32) w).2.1) ps pn cy ca va ((f_Mo_holds li cn (0 : Int32) w).2.2) pp px go ne gi gn (1 : Int32) w (vp_ofb (by decide)) h_w) ⟨callB_of 2 hg (gw_good m_603) rfl rfl rfl (hg _ m_71) (hg _ m_600) hd_Mo_holds ⟨Nat.le_of_ble_eq_true rfl, Nat.le_of_ble_eq_true rfl⟩, hg _ m_602, hg _ m_42⟩ (pw_V hK hN hT hA hP hD hS [0, 1, 2, 3, 4, 5, 6, 7] rfl (by decide) (q0 := 0) (ci := 5) rfl rfl) rfl rfl hl.1 rfl (lv_room (Nat.le_of_ble_eq_true rfl)) d_Mo_save_27 ⟨Nat.le_of_ble_eq_true rfl, Nat.le_of_ble_eq_true rfl⟩) (fun H locs hP hD hS => ?_)
    have hP : va_P D classes (W_Mo cI cL b0 b1 b2 b3 b4 b5 b6 b7 ev ((f_Mo_keep wr wg w v).1) ((f_Mo_keep wr wg w v).2) ke ma ((f_Mo_holds (f_Mo_holds li cn (0 : Int32) w).2.1 (f_Mo_holds li cn (0 : Int32) w).2.2 (1 : Int32) w).2.1) ps pn cy ca va ((f_Mo_holds (f_Mo_holds li cn (0 : Int32) w).2.1 (f_Mo_holds li cn (0 : Int32) w).2.2 (1 : Int32) w).2.2) pp px go ne gi gn) H := hP
    have hD : va_D A (W_Mo cI cL b0 b1 b2 b3 b4 b5 b6 b7 ev ((f_Mo_keep wr wg w v).1) ((f_Mo_keep wr wg w v).2) ke ma ((f_Mo_holds (f_Mo_holds li cn (0 : Int32) w).2.1 (f_Mo_holds li cn (0 : Int32) w).2.2 (1 : Int32) w).2.1) ps pn cy ca va ((f_Mo_holds (f_Mo_holds li cn (0 : Int32) w).2.1 (f_Mo_holds li cn (0 : Int32) w).2.2 (1 : Int32) w).2.2) pp px go ne gi gn) := hD
    refine lv_if_eq (tgt := 50) hx hb d_Mo_save_30 (by decide) (fun h30 => ?_) (fun h30 => ?_)
    · have hF : f_Mo_save wr wg li cn w v = _ := ((if_pos h12).trans (if_pos h30))
      rw [hF]
      exact W.vret hx hb hr (fun t ht hW => ⟨⟨(), rfl, trivial, by show va_P D classes _ t.heap; rw [ht]; exact hP⟩, hS.F ht⟩) hS.2.2 d_Mo_save_50 hlocks
    · refine lv_aload_n hx hb d_Mo_save_33 rfl (lv_at hl 0 rfl) ?_
      refine va_get (ci := 5) (C := R_Mo) (T := F_Mo) (N := 18) hx hb hg in_Mo hown hK hP 0 rfl rfl 5 (by decide) (hg _ m_508) (fun _ h => h) rfl d_Mo_save_34 ?_
      refine lv_iconst (v := 4) hx hb d_Mo_save_37 (by decide) ?_
      refine lv_iload_n hx hb d_Mo_save_38 rfl (lv_at hl 1 rfl) ?_
      refine lv_iconst (v := 4) hx hb d_Mo_save_39 (by decide) ?_
      refine lv_irem hx hb d_Mo_save_40 (by decide) ?_
      refine lv_iadd hx hb d_Mo_save_41 ?_
      refine lv_iload_n hx hb d_Mo_save_42 rfl (lv_at hl 2 rfl) ?_
      refine lv_iload_n hx hb d_Mo_save_43 rfl (lv_at hl 1 rfl) ?_
      refine lv_iconst (v := 4) hx hb d_Mo_save_44 (by decide) ?_
      refine lv_idiv hx hb d_Mo_save_45 (by decide) ?_
      refine cj_l (wc := []) (w1 := []) hP hD hS hA [] rfl rfl (va_runS (rest := [.int _, .ref _]) ⟨hx, hb, hml, hown, hg⟩ (c_Mo_line l D cI cL  _ v (w / (4 : Int32))) ⟨callB_of 2 hg (gw_good m_626) rfl rfl rfl (hg _ m_71) (hg _ m_624) hd_Mo_line ⟨Nat.le_of_ble_eq_true rfl, Nat.le_of_ble_eq_true rfl⟩, hg _ m_625⟩ (pw_S hK hN hT hA hP hD hS [] rfl (by decide)) rfl rfl hl.1 rfl (lv_room (Nat.le_of_ble_eq_true rfl)) d_Mo_save_46 ⟨Nat.le_of_ble_eq_true rfl, Nat.le_of_ble_eq_true rfl⟩) (fun H locs hP hD hS => ?_)
      have hP : va_P D classes (W_Mo cI cL b0 b1 b2 b3 b4 b5 b6 b7 ev ((f_Mo_keep wr wg w v).1) ((f_Mo_keep wr wg w v).2) ke ma ((f_Mo_holds (f_Mo_holds li cn (0 : Int32) w).2.1 (f_Mo_holds li cn (0 : Int32) w).2.2 (1 : Int32) w).2.1) ps pn cy ca va ((f_Mo_holds (f_Mo_holds li cn (0 : Int32) w).2.1 (f_Mo_holds li cn (0 : Int32) w).2.2 (1 : Int32) w).2.2) pp px go ne gi gn) H := hP
      have hD : va_D A (W_Mo cI cL b0 b1 b2 b3 b4 b5 b6 b7 ev ((f_Mo_keep wr wg w v).1) ((f_Mo_keep wr wg w v).2) ke ma ((f_Mo_holds (f_Mo_holds li cn (0 : Int32) w).2.1 (f_Mo_holds li cn (0 : Int32) w).2.2 (1 : Int32) w).2.1) ps pn cy ca va ((f_Mo_holds (f_Mo_holds li cn (0 : Int32) w).2.1 (f_Mo_holds li cn (0 : Int32) w).2.2 (1 : Int32) w).2.2) pp px go ne gi gn) := hD
      refine va_last hx hb hK hP hD hS 5 1 rfl rfl (rm4_in h_w) d_Mo_save_49 (fun H locs hP hD hS => ?_)
      have hP : va_P D classes (W_Mo cI cL b0 b1 b2 b3 b4 b5 b6 b7 ev ((f_Mo_keep wr wg w v).1) ((f_Mo_keep wr wg w v).2) ke ma (vp_updL (f_Mo_holds (f_Mo_holds li cn (0 : Int32) w).2.1 (f_Mo_holds li cn (0 : Int32) w).2.2 (1 : Int32) w).2.1 ((4 : Int32) + (u_rem w (4 : Int32))).toNatClampNeg (f_Mo_line v (w / (4 : Int32)))) ps pn cy ca va ((f_Mo_holds (f_Mo_holds li cn (0 : Int32) w).2.1 (f_Mo_holds li cn (0 : Int32) w).2.2 (1 : Int32) w).2.2) pp px go ne gi gn) H := hP
      have hD : va_D A (W_Mo cI cL b0 b1 b2 b3 b4 b5 b6 b7 ev ((f_Mo_keep wr wg w v).1) ((f_Mo_keep wr wg w v).2) ke ma (vp_updL (f_Mo_holds (f_Mo_holds li cn (0 : Int32) w).2.1 (f_Mo_holds li cn (0 : Int32) w).2.2 (1 : Int32) w).2.1 ((4 : Int32) + (u_rem w (4 : Int32))).toNatClampNeg (f_Mo_line v (w / (4 : Int32)))) ps pn cy ca va ((f_Mo_holds (f_Mo_holds li cn (0 : Int32) w).2.1 (f_Mo_holds li cn (0 : Int32) w).2.2 (1 : Int32) w).2.2) pp px go ne gi gn) := hD
      have hF : f_Mo_save wr wg li cn w v = _ := ((if_pos h12).trans (if_neg h30))
      rw [hF]
      exact W.vret hx hb hr (fun t ht hW => ⟨⟨(), rfl, trivial, by show va_P D classes _ t.heap; rw [ht]; exact hP⟩, hS.F ht⟩) hS.2.2 d_Mo_save_50 hlocks
  · refine lv_aload_n hx hb d_Mo_save_15 rfl (lv_at hl 0 rfl) ?_
    refine va_get (ci := 5) (C := R_Mo) (T := F_Mo) (N := 18) hx hb hg in_Mo hown hK hP 0 rfl rfl 5 (by decide) (hg _ m_508) (fun _ h => h) rfl d_Mo_save_16 ?_
    refine lv_iload_n hx hb d_Mo_save_19 rfl (lv_at hl 1 rfl) ?_
    refine lv_iconst (v := 4) hx hb d_Mo_save_20 (by decide) ?_
    refine lv_irem hx hb d_Mo_save_21 (by decide) ?_
    refine lv_lconst (v := 0) hx hb d_Mo_save_22 (by decide) ?_
    refine va_last hx hb hK hP hD hS 5 1 rfl rfl (rm_in h_w) d_Mo_save_23 (fun H locs hP hD hS => ?_)
    have hP : va_P D classes (W_Mo cI cL b0 b1 b2 b3 b4 b5 b6 b7 ev ((f_Mo_keep wr wg w v).1) ((f_Mo_keep wr wg w v).2) ke ma (vp_updL (f_Mo_holds li cn (0 : Int32) w).2.1 (u_rem w (4 : Int32)).toNatClampNeg (0 : Int64)) ps pn cy ca va ((f_Mo_holds li cn (0 : Int32) w).2.2) pp px go ne gi gn) H := hP
    have hD : va_D A (W_Mo cI cL b0 b1 b2 b3 b4 b5 b6 b7 ev ((f_Mo_keep wr wg w v).1) ((f_Mo_keep wr wg w v).2) ke ma (vp_updL (f_Mo_holds li cn (0 : Int32) w).2.1 (u_rem w (4 : Int32)).toNatClampNeg (0 : Int64)) ps pn cy ca va ((f_Mo_holds li cn (0 : Int32) w).2.2) pp px go ne gi gn) := hD
    refine lv_aload_n hx hb d_Mo_save_24 rfl (lv_at hl 0 rfl) ?_
    refine lv_iconst (v := 1) hx hb d_Mo_save_25 (by decide) ?_
    refine lv_iload_n hx hb d_Mo_save_26 rfl (lv_at hl 1 rfl) ?_
    refine cj_i (wc := (W_Mo cI cL b0 b1 b2 b3 b4 b5 b6 b7 ev ((f_Mo_keep wr wg w v).1) ((f_Mo_keep wr wg w v).2) ke ma (vp_updL (f_Mo_holds li cn (0 : Int32) w).2.1 (u_rem w (4 : Int32)).toNatClampNeg (0 : Int64)) ps pn cy ca va ((f_Mo_holds li cn (0 : Int32) w).2.2) pp px go ne gi gn)) (w1 := (W_Mo cI cL b0 b1 b2 b3 b4 b5 b6 b7 ev ((f_Mo_keep wr wg w v).1) ((f_Mo_keep wr wg w v).2) ke ma ((f_Mo_holds (vp_updL (f_Mo_holds li cn (0 : Int32) w).2.1 (u_rem w (4 : Int32)).toNatClampNeg (0 : Int64)) (f_Mo_holds li cn (0 : Int32) w).2.2 (1 : Int32) w).2.1) ps pn cy ca va ((f_Mo_holds (vp_updL (f_Mo_holds li cn (0 : Int32) w).2.1 (u_rem w (4 : Int32)).toNatClampNeg (0 : Int64)) (f_Mo_holds li cn (0 : Int32) w).2.2 (1 : Int32) w).2.2) pp px go ne gi gn)) hP hD hS hA [0, 1, 2, 3, 4, 5, 6, 7] rfl rfl (va_runV (rest := []) ⟨hx, hb, hml, hown, hg⟩ (c_Mo_holds l D cI cL b0 b1 b2 b3 b4 b5 b6 b7 _ ev ((f_Mo_keep wr wg w v).1) ((f_Mo_keep wr wg w v).2) ke ma (vp_updL (f_Mo_holds li cn (0 : Int32) w).2.1 (u_rem w (4 : Int32)).toNatClampNeg (0 : Int64)) ps pn cy ca va ((f_Mo_holds li cn (0 : Int32) w).2.2) pp px go ne gi gn (1 : Int32) w (vp_ofb (by decide)) h_w) ⟨callB_of 2 hg (gw_good m_603) rfl rfl rfl (hg _ m_71) (hg _ m_600) hd_Mo_holds ⟨Nat.le_of_ble_eq_true rfl, Nat.le_of_ble_eq_true rfl⟩, hg _ m_602, hg _ m_42⟩ (pw_V hK hN hT hA hP hD hS [0, 1, 2, 3, 4, 5, 6, 7] rfl (by decide) (q0 := 0) (ci := 5) rfl rfl) rfl rfl hl.1 rfl (lv_room (Nat.le_of_ble_eq_true rfl)) d_Mo_save_27 ⟨Nat.le_of_ble_eq_true rfl, Nat.le_of_ble_eq_true rfl⟩) (fun H locs hP hD hS => ?_)
    have hP : va_P D classes (W_Mo cI cL b0 b1 b2 b3 b4 b5 b6 b7 ev ((f_Mo_keep wr wg w v).1) ((f_Mo_keep wr wg w v).2) ke ma ((f_Mo_holds (vp_updL (f_Mo_holds li cn (0 : Int32) w).2.1 (u_rem w (4 : Int32)).toNatClampNeg (0 : Int64)) (f_Mo_holds li cn (0 : Int32) w).2.2 (1 : Int32) w).2.1) ps pn cy ca va ((f_Mo_holds (vp_updL (f_Mo_holds li cn (0 : Int32) w).2.1 (u_rem w (4 : Int32)).toNatClampNeg (0 : Int64)) (f_Mo_holds li cn (0 : Int32) w).2.2 (1 : Int32) w).2.2) pp px go ne gi gn) H := hP
    have hD : va_D A (W_Mo cI cL b0 b1 b2 b3 b4 b5 b6 b7 ev ((f_Mo_keep wr wg w v).1) ((f_Mo_keep wr wg w v).2) ke ma ((f_Mo_holds (vp_updL (f_Mo_holds li cn (0 : Int32) w).2.1 (u_rem w (4 : Int32)).toNatClampNeg (0 : Int64)) (f_Mo_holds li cn (0 : Int32) w).2.2 (1 : Int32) w).2.1) ps pn cy ca va ((f_Mo_holds (vp_updL (f_Mo_holds li cn (0 : Int32) w).2.1 (u_rem w (4 : Int32)).toNatClampNeg (0 : Int64)) (f_Mo_holds li cn (0 : Int32) w).2.2 (1 : Int32) w).2.2) pp px go ne gi gn) := hD
    refine lv_if_eq (tgt := 50) hx hb d_Mo_save_30 (by decide) (fun h30 => ?_) (fun h30 => ?_)
    · have hF : f_Mo_save wr wg li cn w v = _ := ((if_neg h12).trans (if_pos h30))
      rw [hF]
      exact W.vret hx hb hr (fun t ht hW => ⟨⟨(), rfl, trivial, by show va_P D classes _ t.heap; rw [ht]; exact hP⟩, hS.F ht⟩) hS.2.2 d_Mo_save_50 hlocks
    · refine lv_aload_n hx hb d_Mo_save_33 rfl (lv_at hl 0 rfl) ?_
      refine va_get (ci := 5) (C := R_Mo) (T := F_Mo) (N := 18) hx hb hg in_Mo hown hK hP 0 rfl rfl 5 (by decide) (hg _ m_508) (fun _ h => h) rfl d_Mo_save_34 ?_
      refine lv_iconst (v := 4) hx hb d_Mo_save_37 (by decide) ?_
      refine lv_iload_n hx hb d_Mo_save_38 rfl (lv_at hl 1 rfl) ?_
      refine lv_iconst (v := 4) hx hb d_Mo_save_39 (by decide) ?_
      refine lv_irem hx hb d_Mo_save_40 (by decide) ?_
      refine lv_iadd hx hb d_Mo_save_41 ?_
      refine lv_iload_n hx hb d_Mo_save_42 rfl (lv_at hl 2 rfl) ?_
      refine lv_iload_n hx hb d_Mo_save_43 rfl (lv_at hl 1 rfl) ?_
      refine lv_iconst (v := 4) hx hb d_Mo_save_44 (by decide) ?_
      refine lv_idiv hx hb d_Mo_save_45 (by decide) ?_
      refine cj_l (wc := []) (w1 := []) hP hD hS hA [] rfl rfl (va_runS (rest := [.int _, .ref _]) ⟨hx, hb, hml, hown, hg⟩ (c_Mo_line l D cI cL  _ v (w / (4 : Int32))) ⟨callB_of 2 hg (gw_good m_626) rfl rfl rfl (hg _ m_71) (hg _ m_624) hd_Mo_line ⟨Nat.le_of_ble_eq_true rfl, Nat.le_of_ble_eq_true rfl⟩, hg _ m_625⟩ (pw_S hK hN hT hA hP hD hS [] rfl (by decide)) rfl rfl hl.1 rfl (lv_room (Nat.le_of_ble_eq_true rfl)) d_Mo_save_46 ⟨Nat.le_of_ble_eq_true rfl, Nat.le_of_ble_eq_true rfl⟩) (fun H locs hP hD hS => ?_)
      have hP : va_P D classes (W_Mo cI cL b0 b1 b2 b3 b4 b5 b6 b7 ev ((f_Mo_keep wr wg w v).1) ((f_Mo_keep wr wg w v).2) ke ma ((f_Mo_holds (vp_updL (f_Mo_holds li cn (0 : Int32) w).2.1 (u_rem w (4 : Int32)).toNatClampNeg (0 : Int64)) (f_Mo_holds li cn (0 : Int32) w).2.2 (1 : Int32) w).2.1) ps pn cy ca va ((f_Mo_holds (vp_updL (f_Mo_holds li cn (0 : Int32) w).2.1 (u_rem w (4 : Int32)).toNatClampNeg (0 : Int64)) (f_Mo_holds li cn (0 : Int32) w).2.2 (1 : Int32) w).2.2) pp px go ne gi gn) H := hP
      have hD : va_D A (W_Mo cI cL b0 b1 b2 b3 b4 b5 b6 b7 ev ((f_Mo_keep wr wg w v).1) ((f_Mo_keep wr wg w v).2) ke ma ((f_Mo_holds (vp_updL (f_Mo_holds li cn (0 : Int32) w).2.1 (u_rem w (4 : Int32)).toNatClampNeg (0 : Int64)) (f_Mo_holds li cn (0 : Int32) w).2.2 (1 : Int32) w).2.1) ps pn cy ca va ((f_Mo_holds (vp_updL (f_Mo_holds li cn (0 : Int32) w).2.1 (u_rem w (4 : Int32)).toNatClampNeg (0 : Int64)) (f_Mo_holds li cn (0 : Int32) w).2.2 (1 : Int32) w).2.2) pp px go ne gi gn) := hD
      refine va_last hx hb hK hP hD hS 5 1 rfl rfl (rm4_in h_w) d_Mo_save_49 (fun H locs hP hD hS => ?_)
      have hP : va_P D classes (W_Mo cI cL b0 b1 b2 b3 b4 b5 b6 b7 ev ((f_Mo_keep wr wg w v).1) ((f_Mo_keep wr wg w v).2) ke ma (vp_updL (f_Mo_holds (vp_updL (f_Mo_holds li cn (0 : Int32) w).2.1 (u_rem w (4 : Int32)).toNatClampNeg (0 : Int64)) (f_Mo_holds li cn (0 : Int32) w).2.2 (1 : Int32) w).2.1 ((4 : Int32) + (u_rem w (4 : Int32))).toNatClampNeg (f_Mo_line v (w / (4 : Int32)))) ps pn cy ca va ((f_Mo_holds (vp_updL (f_Mo_holds li cn (0 : Int32) w).2.1 (u_rem w (4 : Int32)).toNatClampNeg (0 : Int64)) (f_Mo_holds li cn (0 : Int32) w).2.2 (1 : Int32) w).2.2) pp px go ne gi gn) H := hP
      have hD : va_D A (W_Mo cI cL b0 b1 b2 b3 b4 b5 b6 b7 ev ((f_Mo_keep wr wg w v).1) ((f_Mo_keep wr wg w v).2) ke ma (vp_updL (f_Mo_holds (vp_updL (f_Mo_holds li cn (0 : Int32) w).2.1 (u_rem w (4 : Int32)).toNatClampNeg (0 : Int64)) (f_Mo_holds li cn (0 : Int32) w).2.2 (1 : Int32) w).2.1 ((4 : Int32) + (u_rem w (4 : Int32))).toNatClampNeg (f_Mo_line v (w / (4 : Int32)))) ps pn cy ca va ((f_Mo_holds (vp_updL (f_Mo_holds li cn (0 : Int32) w).2.1 (u_rem w (4 : Int32)).toNatClampNeg (0 : Int64)) (f_Mo_holds li cn (0 : Int32) w).2.2 (1 : Int32) w).2.2) pp px go ne gi gn) := hD
      have hF : f_Mo_save wr wg li cn w v = _ := ((if_neg h12).trans (if_neg h30))
      rw [hF]
      exact W.vret hx hb hr (fun t ht hW => ⟨⟨(), rfl, trivial, by show va_P D classes _ t.heap; rw [ht]; exact hP⟩, hS.F ht⟩) hS.2.2 d_Mo_save_50 hlocks
abbrev q_Mo_two (D : va_G) (cI cL : ClassId) (A : Nat → Prop)  (F : Int32) : Array Value → State → Outcome → State → Prop := va_Qi (fun r (_ : Unit) => r = F) (fun _ t => va_P D classes [] t.heap) A
set_option maxHeartbeats 4000000 in
set_option maxRecDepth 100000 in
theorem c_Mo_two (l : Launch) (D : va_G) (cI cL : ClassId) (sz : Nat)  (a : Int32) (b : Int32) (d : Int32)  : Met l y_Mo_two w_Mo_two ({ frames := 0, cells := 0, slots := 0, locals := 0 }) (va_Pc [.int a, .int b, .int d] (PW D cI cL [] sz)) (q_Mo_two D cI cL (va_A [] sz)  (f_Mo_two a b d)) 0 0 (va_A [] sz) := by
  refine mk_met (Qf := fun A => q_Mo_two D cI cL A  (f_Mo_two a b d)) (by decide) (Nat.le_of_ble_eq_true rfl) ?_
  intro p e s m below meth c A ls hx hb hr hlocks hml hown hg hK hN hT hA hP hD hS hnm hl
  refine lv_iload_n hx hb d_Mo_two_0 rfl (lv_at hl 0 rfl) ?_
  refine lv_iload_n hx hb d_Mo_two_1 rfl (lv_at hl 1 rfl) ?_
  refine lv_iand hx hb d_Mo_two_2 ?_
  refine lv_iload_n hx hb d_Mo_two_3 rfl (lv_at hl 0 rfl) ?_
  refine lv_iload_n hx hb d_Mo_two_4 rfl (lv_at hl 2 rfl) ?_
  refine lv_iand hx hb d_Mo_two_5 ?_
  refine lv_ior hx hb d_Mo_two_6 ?_
  refine lv_iload_n hx hb d_Mo_two_7 rfl (lv_at hl 1 rfl) ?_
  refine lv_iload_n hx hb d_Mo_two_8 rfl (lv_at hl 2 rfl) ?_
  refine lv_iand hx hb d_Mo_two_9 ?_
  refine lv_ior hx hb d_Mo_two_10 ?_
  exact W.iret hx hb hr (fun t ht hW => ⟨⟨_, (), rfl, rfl, by show va_P D classes _ t.heap; rw [ht]; exact hP⟩, hS.F ht⟩) hS.2.2 d_Mo_two_11 hlocks
abbrev q_Mo_valueOf (D : va_G) (cI cL : ClassId) (b0 b1 b2 b3 b4 b5 b6 b7 : Nat) (A : Nat → Prop) (ev : Int32) (wr : Nat → Int32) (wg : Nat → Int64) (ke : Nat → Int32) (ma : Nat → Int32) (li : Nat → Int64) (ps : Int32) (pn : Nat → Int32) (cy : Int32) (ca : Int32) (va : Int32) (cn : Nat → Int32) (pp : Int32) (px : Int32) (go : Int32) (ne : Int32) (gi : Int32) (gn : Int32) (F : Int32) : Array Value → State → Outcome → State → Prop := va_Qi (fun r (_ : Unit) => r = F) (fun _ t => va_P D classes (W_Mo cI cL b0 b1 b2 b3 b4 b5 b6 b7 ev wr wg ke ma li ps pn cy ca va cn pp px go ne gi gn) t.heap) A
set_option maxHeartbeats 4000000 in
set_option maxRecDepth 100000 in
theorem c_Mo_valueOf (l : Launch) (D : va_G) (cI cL : ClassId) (b0 b1 b2 b3 b4 b5 b6 b7 : Nat) (sz : Nat) (ev : Int32) (wr : Nat → Int32) (wg : Nat → Int64) (ke : Nat → Int32) (ma : Nat → Int32) (li : Nat → Int64) (ps : Int32) (pn : Nat → Int32) (cy : Int32) (ca : Int32) (va : Int32) (cn : Nat → Int32) (pp : Int32) (px : Int32) (go : Int32) (ne : Int32) (gi : Int32) (gn : Int32) (r : Int32) (h_r : vp_in r 32) : Met l y_Mo_valueOf w_Mo_valueOf ({ frames := 1, cells := 0, slots := 0, locals := 22 }) (va_Pc [.ref b0, .int r] (PW D cI cL (W_Mo cI cL b0 b1 b2 b3 b4 b5 b6 b7 ev wr wg ke ma li ps pn cy ca va cn pp px go ne gi gn) sz)) (q_Mo_valueOf D cI cL b0 b1 b2 b3 b4 b5 b6 b7 (va_A (W_Mo cI cL b0 b1 b2 b3 b4 b5 b6 b7 ev wr wg ke ma li ps pn cy ca va cn pp px go ne gi gn) sz) ev wr wg ke ma li ps pn cy ca va cn pp px go ne gi gn (f_Mo_valueOf ke ma r)) 0 0 (va_A (W_Mo cI cL b0 b1 b2 b3 b4 b5 b6 b7 ev wr wg ke ma li ps pn cy ca va cn pp px go ne gi gn) sz) := by
  refine mk_met (Qf := fun A => q_Mo_valueOf D cI cL b0 b1 b2 b3 b4 b5 b6 b7 A ev wr wg ke ma li ps pn cy ca va cn pp px go ne gi gn (f_Mo_valueOf ke ma r)) (by decide) (Nat.le_of_ble_eq_true rfl) ?_
  intro p e s m below meth c A ls hx hb hr hlocks hml hown hg hK hN hT hA hP hD hS hnm hl
  refine lv_aload_n hx hb d_Mo_valueOf_0 rfl (lv_at hl 0 rfl) ?_
  refine va_get (ci := 5) (C := R_Mo) (T := F_Mo) (N := 18) hx hb hg in_Mo hown hK hP 0 rfl rfl 3 (by decide) (hg _ m_506) (fun _ h => h) rfl d_Mo_valueOf_1 ?_
  refine lv_iload_n hx hb d_Mo_valueOf_4 rfl (lv_at hl 1 rfl) ?_
  refine va_iald hx hb hK hP 3 0 rfl rfl h_r d_Mo_valueOf_5 ?_
  refine lv_aload_n hx hb d_Mo_valueOf_6 rfl (lv_at hl 0 rfl) ?_
  refine va_get (ci := 5) (C := R_Mo) (T := F_Mo) (N := 18) hx hb hg in_Mo hown hK hP 0 rfl rfl 4 (by decide) (hg _ m_507) (fun _ h => h) rfl d_Mo_valueOf_7 ?_
  refine lv_iconst (v := 3) hx hb d_Mo_valueOf_10 (by decide) ?_
  refine lv_iload_n hx hb d_Mo_valueOf_11 rfl (lv_at hl 1 rfl) ?_
  refine lv_imul hx hb d_Mo_valueOf_12 ?_
  refine va_iald hx hb hK hP 4 0 rfl rfl (v3_0 h_r) d_Mo_valueOf_13 ?_
  refine lv_aload_n hx hb d_Mo_valueOf_14 rfl (lv_at hl 0 rfl) ?_
  refine va_get (ci := 5) (C := R_Mo) (T := F_Mo) (N := 18) hx hb hg in_Mo hown hK hP 0 rfl rfl 4 (by decide) (hg _ m_507) (fun _ h => h) rfl d_Mo_valueOf_15 ?_
  refine lv_iconst (v := 3) hx hb d_Mo_valueOf_18 (by decide) ?_
  refine lv_iload_n hx hb d_Mo_valueOf_19 rfl (lv_at hl 1 rfl) ?_
  refine lv_imul hx hb d_Mo_valueOf_20 ?_
  refine lv_iconst (v := 1) hx hb d_Mo_valueOf_21 (by decide) ?_
  refine lv_iadd hx hb d_Mo_valueOf_22 ?_
  refine va_iald hx hb hK hP 4 0 rfl rfl (v3_1 h_r) d_Mo_valueOf_23 ?_
  refine lv_aload_n hx hb d_Mo_valueOf_24 rfl (lv_at hl 0 rfl) ?_
  refine va_get (ci := 5) (C := R_Mo) (T := F_Mo) (N := 18) hx hb hg in_Mo hown hK hP 0 rfl rfl 4 (by decide) (hg _ m_507) (fun _ h => h) rfl d_Mo_valueOf_25 ?_
  refine lv_iconst (v := 3) hx hb d_Mo_valueOf_28 (by decide) ?_
  refine lv_iload_n hx hb d_Mo_valueOf_29 rfl (lv_at hl 1 rfl) ?_
  refine lv_imul hx hb d_Mo_valueOf_30 ?_
  refine lv_iconst (v := 2) hx hb d_Mo_valueOf_31 (by decide) ?_
  refine lv_iadd hx hb d_Mo_valueOf_32 ?_
  refine va_iald hx hb hK hP 4 0 rfl rfl (v3_2 h_r) d_Mo_valueOf_33 ?_
  refine cj_i (wc := []) (w1 := []) hP hD hS hA [] rfl rfl (va_runS (rest := [.int _]) ⟨hx, hb, hml, hown, hg⟩ (c_Mo_two l D cI cL  _ (ma ((3 : Int32) * r).toNatClampNeg) (ma (((3 : Int32) * r) + (1 : Int32)).toNatClampNeg) (ma (((3 : Int32) * r) + (2 : Int32)).toNatClampNeg)) ⟨callB_of 3 hg (gw_good m_583) rfl rfl rfl (hg _ m_71) (hg _ m_581) hd_Mo_two ⟨Nat.le_of_ble_eq_true rfl, Nat.le_of_ble_eq_true rfl⟩, hg _ m_582⟩ (pw_S hK hN hT hA hP hD hS [] rfl (by decide)) rfl rfl hl.1 rfl (lv_room (Nat.le_of_ble_eq_true rfl)) d_Mo_valueOf_34 ⟨Nat.le_of_ble_eq_true rfl, Nat.le_of_ble_eq_true rfl⟩) (fun H locs hP hD hS => ?_)
  have hP : va_P D classes (W_Mo cI cL b0 b1 b2 b3 b4 b5 b6 b7 ev wr wg ke ma li ps pn cy ca va cn pp px go ne gi gn) H := hP
  have hD : va_D A (W_Mo cI cL b0 b1 b2 b3 b4 b5 b6 b7 ev wr wg ke ma li ps pn cy ca va cn pp px go ne gi gn) := hD
  refine lv_ixor hx hb d_Mo_valueOf_37 ?_
  exact W.iret hx hb hr (fun t ht hW => ⟨⟨_, (), rfl, rfl, by show va_P D classes _ t.heap; rw [ht]; exact hP⟩, hS.F ht⟩) hS.2.2 d_Mo_valueOf_38 hlocks
abbrev q_Mo_operand (D : va_G) (cI cL : ClassId) (b0 b1 b2 b3 b4 b5 b6 b7 : Nat) (A : Nat → Prop) (ev : Int32) (wr : Nat → Int32) (wg : Nat → Int64) (ke : Nat → Int32) (ma : Nat → Int32) (li : Nat → Int64) (ps : Int32) (pn : Nat → Int32) (cy : Int32) (ca : Int32) (va : Int32) (cn : Nat → Int32) (pp : Int32) (px : Int32) (go : Int32) (ne : Int32) (gi : Int32) (gn : Int32) (F : Int32) : Array Value → State → Outcome → State → Prop := va_Qi (fun r (_ : Unit) => r = F) (fun _ t => va_P D classes (W_Mo cI cL b0 b1 b2 b3 b4 b5 b6 b7 ev wr wg ke ma li ps pn cy ca va cn pp px go ne gi gn) t.heap) A
set_option maxHeartbeats 4000000 in
set_option maxRecDepth 100000 in
theorem c_Mo_operand (l : Launch) (D : va_G) (cI cL : ClassId) (b0 b1 b2 b3 b4 b5 b6 b7 : Nat) (sz : Nat) (ev : Int32) (wr : Nat → Int32) (wg : Nat → Int64) (ke : Nat → Int32) (ma : Nat → Int32) (li : Nat → Int64) (ps : Int32) (pn : Nat → Int32) (cy : Int32) (ca : Int32) (va : Int32) (cn : Nat → Int32) (pp : Int32) (px : Int32) (go : Int32) (ne : Int32) (gi : Int32) (gn : Int32) (r : Int32) (h_r : vp_in r 32) : Met l y_Mo_operand w_Mo_operand ({ frames := 2, cells := 0, slots := 0, locals := 43 }) (va_Pc [.ref b0, .int r] (PW D cI cL (W_Mo cI cL b0 b1 b2 b3 b4 b5 b6 b7 ev wr wg ke ma li ps pn cy ca va cn pp px go ne gi gn) sz)) (q_Mo_operand D cI cL b0 b1 b2 b3 b4 b5 b6 b7 (va_A (W_Mo cI cL b0 b1 b2 b3 b4 b5 b6 b7 ev wr wg ke ma li ps pn cy ca va cn pp px go ne gi gn) sz) ev wr wg ke ma li ps pn cy ca va cn pp px go ne gi gn (f_Mo_operand ke ma r)) 0 0 (va_A (W_Mo cI cL b0 b1 b2 b3 b4 b5 b6 b7 ev wr wg ke ma li ps pn cy ca va cn pp px go ne gi gn) sz) := by
  refine mk_met (Qf := fun A => q_Mo_operand D cI cL b0 b1 b2 b3 b4 b5 b6 b7 A ev wr wg ke ma li ps pn cy ca va cn pp px go ne gi gn (f_Mo_operand ke ma r)) (by decide) (Nat.le_of_ble_eq_true rfl) ?_
  intro p e s m below meth c A ls hx hb hr hlocks hml hown hg hK hN hT hA hP hD hS hnm hl
  refine lv_iload_n hx hb d_Mo_operand_0 rfl (lv_at hl 1 rfl) ?_
  refine lv_if_ne (tgt := 8) hx hb d_Mo_operand_1 (by decide) (fun h1 => ?_) (fun h1 => ?_)
  · refine lv_aload_n hx hb d_Mo_operand_8 rfl (lv_at hl 0 rfl) ?_
    refine lv_iload_n hx hb d_Mo_operand_9 rfl (lv_at hl 1 rfl) ?_
    refine cj_i (wc := (W_Mo cI cL b0 b1 b2 b3 b4 b5 b6 b7 ev wr wg ke ma li ps pn cy ca va cn pp px go ne gi gn)) (w1 := (W_Mo cI cL b0 b1 b2 b3 b4 b5 b6 b7 ev wr wg ke ma li ps pn cy ca va cn pp px go ne gi gn)) hP hD hS hA [0, 1, 2, 3, 4, 5, 6, 7] rfl rfl (va_runV (rest := []) ⟨hx, hb, hml, hown, hg⟩ (c_Mo_valueOf l D cI cL b0 b1 b2 b3 b4 b5 b6 b7 _ ev wr wg ke ma li ps pn cy ca va cn pp px go ne gi gn r h_r) ⟨callB_of 1 hg (gw_good m_580) rfl rfl rfl (hg _ m_71) (hg _ m_577) hd_Mo_valueOf ⟨Nat.le_of_ble_eq_true rfl, Nat.le_of_ble_eq_true rfl⟩, hg _ m_579, hg _ m_37⟩ (pw_V hK hN hT hA hP hD hS [0, 1, 2, 3, 4, 5, 6, 7] rfl (by decide) (q0 := 0) (ci := 5) rfl rfl) rfl rfl hl.1 rfl (lv_room (Nat.le_of_ble_eq_true rfl)) d_Mo_operand_10 ⟨Nat.le_of_ble_eq_true rfl, Nat.le_of_ble_eq_true rfl⟩) (fun H locs hP hD hS => ?_)
    have hP : va_P D classes (W_Mo cI cL b0 b1 b2 b3 b4 b5 b6 b7 ev wr wg ke ma li ps pn cy ca va cn pp px go ne gi gn) H := hP
    have hD : va_D A (W_Mo cI cL b0 b1 b2 b3 b4 b5 b6 b7 ev wr wg ke ma li ps pn cy ca va cn pp px go ne gi gn) := hD
    have hF : f_Mo_operand ke ma r = _ := (if_neg h1)
    rw [hF]
    exact W.iret hx hb hr (fun t ht hW => ⟨⟨_, (), rfl, rfl, by show va_P D classes _ t.heap; rw [ht]; exact hP⟩, hS.F ht⟩) hS.2.2 d_Mo_operand_13 hlocks
  · refine lv_iconst (v := 0) hx hb d_Mo_operand_4 (by decide) ?_
    refine lv_goto (tgt := 13) hx hb d_Mo_operand_5 (by decide) ?_
    have hF : f_Mo_operand ke ma r = _ := (if_pos h1)
    rw [hF]
    exact W.iret hx hb hr (fun t ht hW => ⟨⟨_, (), rfl, rfl, by show va_P D classes _ t.heap; rw [ht]; exact hP⟩, hS.F ht⟩) hS.2.2 d_Mo_operand_13 hlocks
abbrev q_Mo_put (D : va_G) (cI cL : ClassId) (b0 b1 b2 b3 b4 b5 b6 b7 : Nat) (A : Nat → Prop) (ev : Int32) (wr : Nat → Int32) (wg : Nat → Int64) (ke : Nat → Int32) (ma : Nat → Int32) (li : Nat → Int64) (ps : Int32) (pn : Nat → Int32) (cy : Int32) (ca : Int32) (va : Int32) (cn : Nat → Int32) (pp : Int32) (px : Int32) (go : Int32) (ne : Int32) (gi : Int32) (gn : Int32) (F : (Nat → Int32) × (Nat → Int32)) : Array Value → State → Outcome → State → Prop := va_Qv (fun (_ : Unit) => True) (fun _ t => va_P D classes (W_Mo cI cL b0 b1 b2 b3 b4 b5 b6 b7 ev wr wg F.1 F.2 li ps pn cy ca va cn pp px go ne gi gn) t.heap) A
set_option maxHeartbeats 4000000 in
set_option maxRecDepth 100000 in
theorem c_Mo_put (l : Launch) (D : va_G) (cI cL : ClassId) (b0 b1 b2 b3 b4 b5 b6 b7 : Nat) (sz : Nat) (ev : Int32) (wr : Nat → Int32) (wg : Nat → Int64) (ke : Nat → Int32) (ma : Nat → Int32) (li : Nat → Int64) (ps : Int32) (pn : Nat → Int32) (cy : Int32) (ca : Int32) (va : Int32) (cn : Nat → Int32) (pp : Int32) (px : Int32) (go : Int32) (ne : Int32) (gi : Int32) (gn : Int32) (r : Int32) (v : Int32) (h_r : vp_in r 32) : Met l y_Mo_put w_Mo_put ({ frames := 0, cells := 0, slots := 0, locals := 0 }) (va_Pc [.ref b0, .int r, .int v] (PW D cI cL (W_Mo cI cL b0 b1 b2 b3 b4 b5 b6 b7 ev wr wg ke ma li ps pn cy ca va cn pp px go ne gi gn) sz)) (q_Mo_put D cI cL b0 b1 b2 b3 b4 b5 b6 b7 (va_A (W_Mo cI cL b0 b1 b2 b3 b4 b5 b6 b7 ev wr wg ke ma li ps pn cy ca va cn pp px go ne gi gn) sz) ev wr wg ke ma li ps pn cy ca va cn pp px go ne gi gn (f_Mo_put ke ma r v)) 0 0 (va_A (W_Mo cI cL b0 b1 b2 b3 b4 b5 b6 b7 ev wr wg ke ma li ps pn cy ca va cn pp px go ne gi gn) sz) := by
  refine mk_met (Qf := fun A => q_Mo_put D cI cL b0 b1 b2 b3 b4 b5 b6 b7 A ev wr wg ke ma li ps pn cy ca va cn pp px go ne gi gn (f_Mo_put ke ma r v)) (by decide) (Nat.le_of_ble_eq_true rfl) ?_
  intro p e s m below meth c A ls hx hb hr hlocks hml hown hg hK hN hT hA hP hD hS hnm hl
  refine lv_aload_n hx hb d_Mo_put_0 rfl (lv_at hl 0 rfl) ?_
  refine va_get (ci := 5) (C := R_Mo) (T := F_Mo) (N := 18) hx hb hg in_Mo hown hK hP 0 rfl rfl 3 (by decide) (hg _ m_506) (fun _ h => h) rfl d_Mo_put_1 ?_
  refine lv_iload_n hx hb d_Mo_put_4 rfl (lv_at hl 1 rfl) ?_
  refine lv_iload_n hx hb d_Mo_put_5 rfl (lv_at hl 2 rfl) ?_
  refine va_iast hx hb hK hP hD hS 3 0 rfl rfl h_r d_Mo_put_6 (fun H locs hP hD hS => ?_)
  have hP : va_P D classes (W_Mo cI cL b0 b1 b2 b3 b4 b5 b6 b7 ev wr wg (upd ke r.toNatClampNeg v) ma li ps pn cy ca va cn pp px go ne gi gn) H := hP
  have hD : va_D A (W_Mo cI cL b0 b1 b2 b3 b4 b5 b6 b7 ev wr wg (upd ke r.toNatClampNeg v) ma li ps pn cy ca va cn pp px go ne gi gn) := hD
  refine lv_iconst (v := 0) hx hb d_Mo_put_7 (by decide) ?_
  refine lv_istore_n (lv' := [(3, .int _), (0, .ref _), (1, .int _), (2, .int _)]) hx hb d_Mo_put_8 rfl hl (by decide) rfl (fun ls hl => ?_)
  refine lv_iload_n hx hb d_Mo_put_9 rfl (lv_at hl 0 rfl) ?_
  refine lv_iconst (v := 3) hx hb d_Mo_put_10 (by decide) ?_
  refine lv_icmp_ge (tgt := 31) hx hb d_Mo_put_11 (by decide) (fun h => absurd h (by decide)) (fun _ => ?_)
  refine lv_aload_n hx hb d_Mo_put_14 rfl (lv_at hl 1 rfl) ?_
  refine va_get (ci := 5) (C := R_Mo) (T := F_Mo) (N := 18) hx hb hg in_Mo hown hK hP 0 rfl rfl 4 (by decide) (hg _ m_507) (fun _ h => h) rfl d_Mo_put_15 ?_
  refine lv_iconst (v := 3) hx hb d_Mo_put_18 (by decide) ?_
  refine lv_iload_n hx hb d_Mo_put_19 rfl (lv_at hl 2 rfl) ?_
  refine lv_imul hx hb d_Mo_put_20 ?_
  refine lv_iload_n hx hb d_Mo_put_21 rfl (lv_at hl 0 rfl) ?_
  refine lv_iadd hx hb d_Mo_put_22 ?_
  refine lv_iconst (v := 0) hx hb d_Mo_put_23 (by decide) ?_
  refine va_iast hx hb hK hP hD hS 4 0 rfl rfl (v3_z h_r) d_Mo_put_24 (fun H locs hP hD hS => ?_)
  have hP : va_P D classes (W_Mo cI cL b0 b1 b2 b3 b4 b5 b6 b7 ev wr wg (upd ke r.toNatClampNeg v) (upd ma (((3 : Int32) * r) + (0 : Int32)).toNatClampNeg (0 : Int32)) li ps pn cy ca va cn pp px go ne gi gn) H := hP
  have hD : va_D A (W_Mo cI cL b0 b1 b2 b3 b4 b5 b6 b7 ev wr wg (upd ke r.toNatClampNeg v) (upd ma (((3 : Int32) * r) + (0 : Int32)).toNatClampNeg (0 : Int32)) li ps pn cy ca va cn pp px go ne gi gn) := hD
  refine lv_iinc (k := 0) (v := 1) (lv' := [(3, .int _), (0, .ref _), (1, .int _), (2, .int _)]) hx hb d_Mo_put_25 hl rfl (by decide) (by decide) rfl (fun ls hl => ?_)
  refine lv_goto (tgt := 9) hx hb d_Mo_put_28 (by decide) ?_
  refine lv_iload_n hx hb d_Mo_put_9 rfl (lv_at hl 0 rfl) ?_
  refine lv_iconst (v := 3) hx hb d_Mo_put_10 (by decide) ?_
  refine lv_icmp_ge (tgt := 31) hx hb d_Mo_put_11 (by decide) (fun h => absurd h (by decide)) (fun _ => ?_)
  refine lv_aload_n hx hb d_Mo_put_14 rfl (lv_at hl 1 rfl) ?_
  refine va_get (ci := 5) (C := R_Mo) (T := F_Mo) (N := 18) hx hb hg in_Mo hown hK hP 0 rfl rfl 4 (by decide) (hg _ m_507) (fun _ h => h) rfl d_Mo_put_15 ?_
  refine lv_iconst (v := 3) hx hb d_Mo_put_18 (by decide) ?_
  refine lv_iload_n hx hb d_Mo_put_19 rfl (lv_at hl 2 rfl) ?_
  refine lv_imul hx hb d_Mo_put_20 ?_
  refine lv_iload_n hx hb d_Mo_put_21 rfl (lv_at hl 0 rfl) ?_
  refine lv_iadd hx hb d_Mo_put_22 ?_
  refine lv_iconst (v := 0) hx hb d_Mo_put_23 (by decide) ?_
  refine va_iast hx hb hK hP hD hS 4 0 rfl rfl (v3_1 h_r) d_Mo_put_24 (fun H locs hP hD hS => ?_)
  have hP : va_P D classes (W_Mo cI cL b0 b1 b2 b3 b4 b5 b6 b7 ev wr wg (upd ke r.toNatClampNeg v) (upd (upd ma (((3 : Int32) * r) + (0 : Int32)).toNatClampNeg (0 : Int32)) (((3 : Int32) * r) + (1 : Int32)).toNatClampNeg (0 : Int32)) li ps pn cy ca va cn pp px go ne gi gn) H := hP
  have hD : va_D A (W_Mo cI cL b0 b1 b2 b3 b4 b5 b6 b7 ev wr wg (upd ke r.toNatClampNeg v) (upd (upd ma (((3 : Int32) * r) + (0 : Int32)).toNatClampNeg (0 : Int32)) (((3 : Int32) * r) + (1 : Int32)).toNatClampNeg (0 : Int32)) li ps pn cy ca va cn pp px go ne gi gn) := hD
  refine lv_iinc (k := 0) (v := 2) (lv' := [(3, .int _), (0, .ref _), (1, .int _), (2, .int _)]) hx hb d_Mo_put_25 hl rfl (by decide) (by decide) rfl (fun ls hl => ?_)
  refine lv_goto (tgt := 9) hx hb d_Mo_put_28 (by decide) ?_
  refine lv_iload_n hx hb d_Mo_put_9 rfl (lv_at hl 0 rfl) ?_
  refine lv_iconst (v := 3) hx hb d_Mo_put_10 (by decide) ?_
  refine lv_icmp_ge (tgt := 31) hx hb d_Mo_put_11 (by decide) (fun h => absurd h (by decide)) (fun _ => ?_)
  refine lv_aload_n hx hb d_Mo_put_14 rfl (lv_at hl 1 rfl) ?_
  refine va_get (ci := 5) (C := R_Mo) (T := F_Mo) (N := 18) hx hb hg in_Mo hown hK hP 0 rfl rfl 4 (by decide) (hg _ m_507) (fun _ h => h) rfl d_Mo_put_15 ?_
  refine lv_iconst (v := 3) hx hb d_Mo_put_18 (by decide) ?_
  refine lv_iload_n hx hb d_Mo_put_19 rfl (lv_at hl 2 rfl) ?_
  refine lv_imul hx hb d_Mo_put_20 ?_
  refine lv_iload_n hx hb d_Mo_put_21 rfl (lv_at hl 0 rfl) ?_
  refine lv_iadd hx hb d_Mo_put_22 ?_
  refine lv_iconst (v := 0) hx hb d_Mo_put_23 (by decide) ?_
  refine va_iast hx hb hK hP hD hS 4 0 rfl rfl (v3_2 h_r) d_Mo_put_24 (fun H locs hP hD hS => ?_)
  have hP : va_P D classes (W_Mo cI cL b0 b1 b2 b3 b4 b5 b6 b7 ev wr wg (upd ke r.toNatClampNeg v) (upd (upd (upd ma (((3 : Int32) * r) + (0 : Int32)).toNatClampNeg (0 : Int32)) (((3 : Int32) * r) + (1 : Int32)).toNatClampNeg (0 : Int32)) (((3 : Int32) * r) + (2 : Int32)).toNatClampNeg (0 : Int32)) li ps pn cy ca va cn pp px go ne gi gn) H := hP
  have hD : va_D A (W_Mo cI cL b0 b1 b2 b3 b4 b5 b6 b7 ev wr wg (upd ke r.toNatClampNeg v) (upd (upd (upd ma (((3 : Int32) * r) + (0 : Int32)).toNatClampNeg (0 : Int32)) (((3 : Int32) * r) + (1 : Int32)).toNatClampNeg (0 : Int32)) (((3 : Int32) * r) + (2 : Int32)).toNatClampNeg (0 : Int32)) li ps pn cy ca va cn pp px go ne gi gn) := hD
  refine lv_iinc (k := 0) (v := 3) (lv' := [(3, .int _), (0, .ref _), (1, .int _), (2, .int _)]) hx hb d_Mo_put_25 hl rfl (by decide) (by decide) rfl (fun ls hl => ?_)
  refine lv_goto (tgt := 9) hx hb d_Mo_put_28 (by decide) ?_
  refine lv_iload_n hx hb d_Mo_put_9 rfl (lv_at hl 0 rfl) ?_
  refine lv_iconst (v := 3) hx hb d_Mo_put_10 (by decide) ?_
  refine lv_icmp_ge (tgt := 31) hx hb d_Mo_put_11 (by decide) (fun _ => ?_) (fun h => absurd (by decide) h)
  exact W.vret hx hb hr (fun t ht hW => ⟨⟨(), rfl, trivial, by show va_P D classes _ t.heap; rw [ht]; exact hP⟩, hS.F ht⟩) hS.2.2 d_Mo_put_31 hlocks
abbrev q_Mo_vote (D : va_G) (cI cL : ClassId) (b0 b1 b2 b3 b4 b5 b6 b7 : Nat) (A : Nat → Prop) (ev : Int32) (wr : Nat → Int32) (wg : Nat → Int64) (ke : Nat → Int32) (ma : Nat → Int32) (li : Nat → Int64) (ps : Int32) (pn : Nat → Int32) (cy : Int32) (ca : Int32) (va : Int32) (cn : Nat → Int32) (pp : Int32) (px : Int32) (go : Int32) (ne : Int32) (gi : Int32) (gn : Int32) (F : (Nat → Int32) × (Nat → Int32) × (Nat → Int32)) : Array Value → State → Outcome → State → Prop := va_Qv (fun (_ : Unit) => True) (fun _ t => va_P D classes (W_Mo cI cL b0 b1 b2 b3 b4 b5 b6 b7 ev wr wg F.1 F.2.1 li ps pn cy ca va F.2.2 pp px go ne gi gn) t.heap) A
set_option maxHeartbeats 4000000 in
set_option maxRecDepth 100000 in
theorem c_Mo_vote (l : Launch) (D : va_G) (cI cL : ClassId) (b0 b1 b2 b3 b4 b5 b6 b7 : Nat) (sz : Nat) (ev : Int32) (wr : Nat → Int32) (wg : Nat → Int64) (ke : Nat → Int32) (ma : Nat → Int32) (li : Nat → Int64) (ps : Int32) (pn : Nat → Int32) (cy : Int32) (ca : Int32) (va : Int32) (cn : Nat → Int32) (pp : Int32) (px : Int32) (go : Int32) (ne : Int32) (gi : Int32) (gn : Int32)   : Met l y_Mo_vote w_Mo_vote ({ frames := 2, cells := 0, slots := 0, locals := 43 }) (va_Pc [.ref b0] (PW D cI cL (W_Mo cI cL b0 b1 b2 b3 b4 b5 b6 b7 ev wr wg ke ma li ps pn cy ca va cn pp px go ne gi gn) sz)) (q_Mo_vote D cI cL b0 b1 b2 b3 b4 b5 b6 b7 (va_A (W_Mo cI cL b0 b1 b2 b3 b4 b5 b6 b7 ev wr wg ke ma li ps pn cy ca va cn pp px go ne gi gn) sz) ev wr wg ke ma li ps pn cy ca va cn pp px go ne gi gn (f_Mo_vote ke ma cn)) 0 0 (va_A (W_Mo cI cL b0 b1 b2 b3 b4 b5 b6 b7 ev wr wg ke ma li ps pn cy ca va cn pp px go ne gi gn) sz) := by
  refine mk_met (Qf := fun A => q_Mo_vote D cI cL b0 b1 b2 b3 b4 b5 b6 b7 A ev wr wg ke ma li ps pn cy ca va cn pp px go ne gi gn (f_Mo_vote ke ma cn)) (by decide) (Nat.le_of_ble_eq_true rfl) ?_
  intro p e s m below meth c A ls hx hb hr hlocks hml hown hg hK hN hT hA hP hD hS hnm hl
  refine lv_iconst (v := 0) hx hb d_Mo_vote_0 (by decide) ?_
  refine lv_istore_n (lv' := [(1, .int _), (0, .ref _)]) hx hb d_Mo_vote_1 rfl hl (by decide) rfl (fun ls hl => ?_)
  have loop : ∀ (n j : Nat) (ke_ : Nat → Int32) (ma_ : Nat → Int32) (cn_ : Nat → Int32) (ls : Array Slot) (H : Heap) (locs : List Loc), j + n = 32 → lv_has ls 3 [(1, .int (nI j)), (0, .ref b0)] → va_P D classes (W_Mo cI cL b0 b1 b2 b3 b4 b5 b6 b7 ev wr wg ke_ ma_ li ps pn cy ca va cn_ pp px go ne gi gn) H → va_D A (W_Mo cI cL b0 b1 b2 b3 b4 b5 b6 b7 ev wr wg ke_ ma_ li ps pn cy ca va cn_ pp px go ne gi gn) → va_S A s.heap H locs → W p l e ({ frames := 2, cells := 0, slots := 0, locals := 43 } : Room) s m ([.ref b0] : List Value).toArray below meth c H locs 0 0 (MQ below (q_Mo_vote D cI cL b0 b1 b2 b3 b4 b5 b6 b7 A ev wr wg ke ma li ps pn cy ca va cn pp px go ne gi gn (f_Mo_vote_l2  n j ke_ ma_ cn_)) ([.ref b0] : List Value).toArray s 0 0 A) (F0 m 2 ls []) := by
    intro n
    induction n with
    | zero =>
      intro j ke_ ma_ cn_ ls H locs hj  hl hP hD hS
      refine lv_iload_n hx hb d_Mo_vote_2 rfl (lv_at hl 0 rfl) ?_
      refine lv_bipush (v := 32) hx hb d_Mo_vote_3 (by decide) ?_
      refine lv_icmp_ge (tgt := 99) hx hb d_Mo_vote_5 (by decide) (fun _ => ?_) (fun h => absurd (show nI 32 ≤ nI j from nI_le (by omega) (by omega)) h)
      exact W.vret hx hb hr (fun t ht hW => ⟨⟨(), rfl, trivial, by show va_P D classes _ t.heap; rw [ht]; exact hP⟩, hS.F ht⟩) hS.2.2 d_Mo_vote_99 hlocks
    | succ n ih =>
      intro j ke_ ma_ cn_ ls H locs hj  hl hP hD hS
      refine lv_iload_n hx hb d_Mo_vote_2 rfl (lv_at hl 0 rfl) ?_
      refine lv_bipush (v := 32) hx hb d_Mo_vote_3 (by decide) ?_
      refine lv_icmp_ge (tgt := 99) hx hb d_Mo_vote_5 (by decide) (fun h => absurd h (show ¬ nI 32 ≤ nI j from nI_ge (by omega) (by decide))) (fun _ => ?_)
      refine lv_aload_n hx hb d_Mo_vote_8 rfl (lv_at hl 1 rfl) ?_
      refine va_get (ci := 5) (C := R_Mo) (T := F_Mo) (N := 18) hx hb hg in_Mo hown hK hP 0 rfl rfl 4 (by decide) (hg _ m_507) (fun _ h => h) rfl d_Mo_vote_9 ?_
      refine lv_iconst (v := 3) hx hb d_Mo_vote_12 (by decide) ?_
      refine lv_iload_n hx hb d_Mo_vote_13 rfl (lv_at hl 0 rfl) ?_
      refine lv_imul hx hb d_Mo_vote_14 ?_
      refine va_iald hx hb hK hP 4 0 rfl rfl (v3_0 (vp_in_nI (by omega) (by decide))) d_Mo_vote_15 ?_
      refine lv_aload_n hx hb d_Mo_vote_16 rfl (lv_at hl 1 rfl) ?_
      refine va_get (ci := 5) (C := R_Mo) (T := F_Mo) (N := 18) hx hb hg in_Mo hown hK hP 0 rfl rfl 4 (by decide) (hg _ m_507) (fun _ h => h) rfl d_Mo_vote_17 ?_
      refine lv_iconst (v := 3) hx hb d_Mo_vote_20 (by decide) ?_
      refine lv_iload_n hx hb d_Mo_vote_21 rfl (lv_at hl 0 rfl) ?_
      refine lv_imul hx hb d_Mo_vote_22 ?_
      refine lv_iconst (v := 1) hx hb d_Mo_vote_23 (by decide) ?_
      refine lv_iadd hx hb d_Mo_vote_24 ?_
      refine va_iald hx hb hK hP 4 0 rfl rfl (v3_1 (vp_in_nI (by omega) (by decide))) d_Mo_vote_25 ?_
      refine lv_icmp_ne (tgt := 54) hx hb d_Mo_vote_26 (by decide) (fun h26 => ?_) (fun h26 => ?_)
      · refine lv_iconst (v := 0) hx hb d_Mo_vote_54 (by decide) ?_
        refine lv_istore_n (lv' := [(2, .int _), (1, .int _), (0, .ref _)]) hx hb d_Mo_vote_55 rfl hl (by decide) rfl (fun ls hl => ?_)
        refine lv_aload_n hx hb d_Mo_vote_56 rfl (lv_at hl 2 rfl) ?_
        refine va_get (ci := 5) (C := R_Mo) (T := F_Mo) (N := 18) hx hb hg in_Mo hown hK hP 0 rfl rfl 11 (by decide) (hg _ m_514) (fun _ h => h) rfl d_Mo_vote_57 ?_
        refine lv_iconst (v := 2) hx hb d_Mo_vote_60 (by decide) ?_
        refine lv_iload_n hx hb d_Mo_vote_61 rfl (lv_at hl 0 rfl) ?_
        refine lv_if_eq (tgt := 74) hx hb d_Mo_vote_62 (by decide) (fun _ => ?_) (fun h => absurd (by decide) h)
        refine lv_aload_n hx hb d_Mo_vote_74 rfl (lv_at hl 2 rfl) ?_
        refine va_get (ci := 5) (C := R_Mo) (T := F_Mo) (N := 18) hx hb hg in_Mo hown hK hP 0 rfl rfl 11 (by decide) (hg _ m_514) (fun _ h => h) rfl d_Mo_vote_75 ?_
        refine lv_iconst (v := 2) hx hb d_Mo_vote_78 (by decide) ?_
        refine va_iald hx hb hK hP 7 0 rfl rfl (vp_ofb (by decide)) d_Mo_vote_79 ?_
        refine lv_iconst (v := 1) hx hb d_Mo_vote_80 (by decide) ?_
        refine lv_iadd hx hb d_Mo_vote_81 ?_
        refine va_iast hx hb hK hP hD hS 7 0 rfl rfl (vp_ofb (by decide)) d_Mo_vote_82 (fun H locs hP hD hS => ?_)
        have hP : va_P D classes (W_Mo cI cL b0 b1 b2 b3 b4 b5 b6 b7 ev wr wg ke_ ma_ li ps pn cy ca va (upd cn_ (2 : Int32).toNatClampNeg ((cn_ (2 : Int32).toNatClampNeg) + (1 : Int32))) pp px go ne gi gn) H := hP
        have hD : va_D A (W_Mo cI cL b0 b1 b2 b3 b4 b5 b6 b7 ev wr wg ke_ ma_ li ps pn cy ca va (upd cn_ (2 : Int32).toNatClampNeg ((cn_ (2 : Int32).toNatClampNeg) + (1 : Int32))) pp px go ne gi gn) := hD
        refine lv_aload_n hx hb d_Mo_vote_83 rfl (lv_at hl 2 rfl) ?_
        refine lv_iload_n hx hb d_Mo_vote_84 rfl (lv_at hl 1 rfl) ?_
        refine lv_aload_n hx hb d_Mo_vote_85 rfl (lv_at hl 2 rfl) ?_
        refine lv_iload_n hx hb d_Mo_vote_86 rfl (lv_at hl 1 rfl) ?_
        refine cj_i (wc := (W_Mo cI cL b0 b1 b2 b3 b4 b5 b6 b7 ev wr wg ke_ ma_ li ps pn cy ca va (upd cn_ (2 : Int32).toNatClampNeg ((cn_ (2 : Int32).toNatClampNeg) + (1 : Int32))) pp px go ne gi gn)) (w1 := (W_Mo cI cL b0 b1 b2 b3 b4 b5 b6 b7 ev wr wg ke_ ma_ li ps pn cy ca va (upd cn_ (2 : Int32).toNatClampNeg ((cn_ (2 : Int32).toNatClampNeg) + (1 : Int32))) pp px go ne gi gn)) hP hD hS hA [0, 1, 2, 3, 4, 5, 6, 7] rfl rfl (va_runV (rest := [.int _, .ref _]) ⟨hx, hb, hml, hown, hg⟩ (c_Mo_valueOf l D cI cL b0 b1 b2 b3 b4 b5 b6 b7 _ ev wr wg ke_ ma_ li ps pn cy ca va (upd cn_ (2 : Int32).toNatClampNeg ((cn_ (2 : Int32).toNatClampNeg) + (1 : Int32))) pp px go ne gi gn (nI j) (vp_in_nI (by omega) (by decide))) ⟨callB_of 1 hg (gw_good m_580) rfl rfl rfl (hg _ m_71) (hg _ m_577) hd_Mo_valueOf ⟨Nat.le_of_ble_eq_true rfl, Nat.le_of_ble_eq_true rfl⟩, hg _ m_579, hg _ m_37⟩ (pw_V hK hN hT hA hP hD hS [0, 1, 2, 3, 4, 5, 6, 7] rfl (by decide) (q0 := 0) (ci := 5) rfl rfl) rfl rfl hl.1 rfl (lv_room (Nat.le_of_ble_eq_true rfl)) d_Mo_vote_87 ⟨Nat.le_of_ble_eq_true rfl, Nat.le_of_ble_eq_true rfl⟩) (fun H locs hP hD hS => ?_)
        have hP : va_P D classes (W_Mo cI cL b0 b1 b2 b3 b4 b5 b6 b7 ev wr wg ke_ ma_ li ps pn cy ca va (upd cn_ (2 : Int32).toNatClampNeg ((cn_ (2 : Int32).toNatClampNeg) + (1 : Int32))) pp px go ne gi gn) H := hP
        have hD : va_D A (W_Mo cI cL b0 b1 b2 b3 b4 b5 b6 b7 ev wr wg ke_ ma_ li ps pn cy ca va (upd cn_ (2 : Int32).toNatClampNeg ((cn_ (2 : Int32).toNatClampNeg) + (1 : Int32))) pp px go ne gi gn) := hD
        refine cj_v (wc := (W_Mo cI cL b0 b1 b2 b3 b4 b5 b6 b7 ev wr wg ke_ ma_ li ps pn cy ca va (upd cn_ (2 : Int32).toNatClampNeg ((cn_ (2 : Int32).toNatClampNeg) + (1 : Int32))) pp px go ne gi gn)) (w1 := (W_Mo cI cL b0 b1 b2 b3 b4 b5 b6 b7 ev wr wg ((f_Mo_put ke_ ma_ (nI j) (f_Mo_valueOf ke_ ma_ (nI j))).1) ((f_Mo_put ke_ ma_ (nI j) (f_Mo_valueOf ke_ ma_ (nI j))).2) li ps pn cy ca va (upd cn_ (2 : Int32).toNatClampNeg ((cn_ (2 : Int32).toNatClampNeg) + (1 : Int32))) pp px go ne gi gn)) hP hD hS hA [0, 1, 2, 3, 4, 5, 6, 7] rfl rfl (va_runV (rest := []) ⟨hx, hb, hml, hown, hg⟩ (c_Mo_put l D cI cL b0 b1 b2 b3 b4 b5 b6 b7 _ ev wr wg ke_ ma_ li ps pn cy ca va (upd cn_ (2 : Int32).toNatClampNeg ((cn_ (2 : Int32).toNatClampNeg) + (1 : Int32))) pp px go ne gi gn (nI j) (f_Mo_valueOf ke_ ma_ (nI j)) (vp_in_nI (by omega) (by decide))) ⟨callB_of 2 hg (gw_good m_587) rfl rfl rfl (hg _ m_71) (hg _ m_584) hd_Mo_put ⟨Nat.le_of_ble_eq_true rfl, Nat.le_of_ble_eq_true rfl⟩, hg _ m_586, hg _ m_38⟩ (pw_V hK hN hT hA hP hD hS [0, 1, 2, 3, 4, 5, 6, 7] rfl (by decide) (q0 := 0) (ci := 5) rfl rfl) rfl rfl hl.1 rfl (lv_room (Nat.le_of_ble_eq_true rfl)) d_Mo_vote_90 ⟨Nat.le_of_ble_eq_true rfl, Nat.le_of_ble_eq_true rfl⟩) (fun H locs hP hD hS => ?_)
        have hP : va_P D classes (W_Mo cI cL b0 b1 b2 b3 b4 b5 b6 b7 ev wr wg ((f_Mo_put ke_ ma_ (nI j) (f_Mo_valueOf ke_ ma_ (nI j))).1) ((f_Mo_put ke_ ma_ (nI j) (f_Mo_valueOf ke_ ma_ (nI j))).2) li ps pn cy ca va (upd cn_ (2 : Int32).toNatClampNeg ((cn_ (2 : Int32).toNatClampNeg) + (1 : Int32))) pp px go ne gi gn) H := hP
        have hD : va_D A (W_Mo cI cL b0 b1 b2 b3 b4 b5 b6 b7 ev wr wg ((f_Mo_put ke_ ma_ (nI j) (f_Mo_valueOf ke_ ma_ (nI j))).1) ((f_Mo_put ke_ ma_ (nI j) (f_Mo_valueOf ke_ ma_ (nI j))).2) li ps pn cy ca va (upd cn_ (2 : Int32).toNatClampNeg ((cn_ (2 : Int32).toNatClampNeg) + (1 : Int32))) pp px go ne gi gn) := hD
        refine lv_iinc (k := 1) (v := nI (_ + 1)) (lv' := [(1, .int _), (2, .int _), (0, .ref _)]) hx hb d_Mo_vote_93 hl rfl (nI_1 _) (by decide) rfl (fun ls hl => ?_)
        refine lv_goto (tgt := 2) hx hb d_Mo_vote_96 (by decide) ?_
        have hF : f_Mo_vote_l2  (n + 1) j ke_ ma_ cn_ = _ := (if_neg h26)
        rw [hF]
        exact ih (j + 1) _ _ _ _ _ _ (by omega)  (lv_sub hl [0, 2] rfl) hP hD hS
      · refine lv_aload_n hx hb d_Mo_vote_29 rfl (lv_at hl 1 rfl) ?_
        refine va_get (ci := 5) (C := R_Mo) (T := F_Mo) (N := 18) hx hb hg in_Mo hown hK hP 0 rfl rfl 4 (by decide) (hg _ m_507) (fun _ h => h) rfl d_Mo_vote_30 ?_
        refine lv_iconst (v := 3) hx hb d_Mo_vote_33 (by decide) ?_
        refine lv_iload_n hx hb d_Mo_vote_34 rfl (lv_at hl 0 rfl) ?_
        refine lv_imul hx hb d_Mo_vote_35 ?_
        refine va_iald hx hb hK hP 4 0 rfl rfl (v3_0 (vp_in_nI (by omega) (by decide))) d_Mo_vote_36 ?_
        refine lv_aload_n hx hb d_Mo_vote_37 rfl (lv_at hl 1 rfl) ?_
        refine va_get (ci := 5) (C := R_Mo) (T := F_Mo) (N := 18) hx hb hg in_Mo hown hK hP 0 rfl rfl 4 (by decide) (hg _ m_507) (fun _ h => h) rfl d_Mo_vote_38 ?_
        refine lv_iconst (v := 3) hx hb d_Mo_vote_41 (by decide) ?_
        refine lv_iload_n hx hb d_Mo_vote_42 rfl (lv_at hl 0 rfl) ?_
        refine lv_imul hx hb d_Mo_vote_43 ?_
        refine lv_iconst (v := 2) hx hb d_Mo_vote_44 (by decide) ?_
        refine lv_iadd hx hb d_Mo_vote_45 ?_
        refine va_iald hx hb hK hP 4 0 rfl rfl (v3_2 (vp_in_nI (by omega) (by decide))) d_Mo_vote_46 ?_
        refine lv_icmp_ne (tgt := 54) hx hb d_Mo_vote_47 (by decide) (fun h47 => ?_) (fun h47 => ?_)
        · refine lv_iconst (v := 0) hx hb d_Mo_vote_54 (by decide) ?_
          refine lv_istore_n (lv' := [(2, .int _), (1, .int _), (0, .ref _)]) hx hb d_Mo_vote_55 rfl hl (by decide) rfl (fun ls hl => ?_)
          refine lv_aload_n hx hb d_Mo_vote_56 rfl (lv_at hl 2 rfl) ?_
          refine va_get (ci := 5) (C := R_Mo) (T := F_Mo) (N := 18) hx hb hg in_Mo hown hK hP 0 rfl rfl 11 (by decide) (hg _ m_514) (fun _ h => h) rfl d_Mo_vote_57 ?_
          refine lv_iconst (v := 2) hx hb d_Mo_vote_60 (by decide) ?_
          refine lv_iload_n hx hb d_Mo_vote_61 rfl (lv_at hl 0 rfl) ?_
          refine lv_if_eq (tgt := 74) hx hb d_Mo_vote_62 (by decide) (fun _ => ?_) (fun h => absurd (by decide) h)
          refine lv_aload_n hx hb d_Mo_vote_74 rfl (lv_at hl 2 rfl) ?_
          refine va_get (ci := 5) (C := R_Mo) (T := F_Mo) (N := 18) hx hb hg in_Mo hown hK hP 0 rfl rfl 11 (by decide) (hg _ m_514) (fun _ h => h) rfl d_Mo_vote_75 ?_
          refine lv_iconst (v := 2) hx hb d_Mo_vote_78 (by decide) ?_
          refine va_iald hx hb hK hP 7 0 rfl rfl (vp_ofb (by decide)) d_Mo_vote_79 ?_
          refine lv_iconst (v := 1) hx hb d_Mo_vote_80 (by decide) ?_
          refine lv_iadd hx hb d_Mo_vote_81 ?_
          refine va_iast hx hb hK hP hD hS 7 0 rfl rfl (vp_ofb (by decide)) d_Mo_vote_82 (fun H locs hP hD hS => ?_)
          have hP : va_P D classes (W_Mo cI cL b0 b1 b2 b3 b4 b5 b6 b7 ev wr wg ke_ ma_ li ps pn cy ca va (upd cn_ (2 : Int32).toNatClampNeg ((cn_ (2 : Int32).toNatClampNeg) + (1 : Int32))) pp px go ne gi gn) H := hP
          have hD : va_D A (W_Mo cI cL b0 b1 b2 b3 b4 b5 b6 b7 ev wr wg ke_ ma_ li ps pn cy ca va (upd cn_ (2 : Int32).toNatClampNeg ((cn_ (2 : Int32).toNatClampNeg) + (1 : Int32))) pp px go ne gi gn) := hD
          refine lv_aload_n hx hb d_Mo_vote_83 rfl (lv_at hl 2 rfl) ?_
          refine lv_iload_n hx hb d_Mo_vote_84 rfl (lv_at hl 1 rfl) ?_
          refine lv_aload_n hx hb d_Mo_vote_85 rfl (lv_at hl 2 rfl) ?_
          refine lv_iload_n hx hb d_Mo_vote_86 rfl (lv_at hl 1 rfl) ?_
          refine cj_i (wc := (W_Mo cI cL b0 b1 b2 b3 b4 b5 b6 b7 ev wr wg ke_ ma_ li ps pn cy ca va (upd cn_ (2 : Int32).toNatClampNeg ((cn_ (2 : Int32).toNatClampNeg) + (1 : Int32))) pp px go ne gi gn)) (w1 := (W_Mo cI cL b0 b1 b2 b3 b4 b5 b6 b7 ev wr wg ke_ ma_ li ps pn cy ca va (upd cn_ (2 : Int32).toNatClampNeg ((cn_ (2 : Int32).toNatClampNeg) + (1 : Int32))) pp px go ne gi gn)) hP hD hS hA [0, 1, 2, 3, 4, 5, 6, 7] rfl rfl (va_runV (rest := [.int _, .ref _]) ⟨hx, hb, hml, hown, hg⟩ (c_Mo_valueOf l D cI cL b0 b1 b2 b3 b4 b5 b6 b7 _ ev wr wg ke_ ma_ li ps pn cy ca va (upd cn_ (2 : Int32).toNatClampNeg ((cn_ (2 : Int32).toNatClampNeg) + (1 : Int32))) pp px go ne gi gn (nI j) (vp_in_nI (by omega) (by decide))) ⟨callB_of 1 hg (gw_good m_580) rfl rfl rfl (hg _ m_71) (hg _ m_577) hd_Mo_valueOf ⟨Nat.le_of_ble_eq_true rfl, Nat.le_of_ble_eq_true rfl⟩, hg _ m_579, hg _ m_37⟩ (pw_V hK hN hT hA hP hD hS [0, 1, 2, 3, 4, 5, 6, 7] rfl (by decide) (q0 := 0) (ci := 5) rfl rfl) rfl rfl hl.1 rfl (lv_room (Nat.le_of_ble_eq_true rfl)) d_Mo_vote_87 ⟨Nat.le_of_ble_eq_true rfl, Nat.le_of_ble_eq_true rfl⟩) (fun H locs hP hD hS => ?_)
          have hP : va_P D classes (W_Mo cI cL b0 b1 b2 b3 b4 b5 b6 b7 ev wr wg ke_ ma_ li ps pn cy ca va (upd cn_ (2 : Int32).toNatClampNeg ((cn_ (2 : Int32).toNatClampNeg) + (1 : Int32))) pp px go ne gi gn) H := hP
          have hD : va_D A (W_Mo cI cL b0 b1 b2 b3 b4 b5 b6 b7 ev wr wg ke_ ma_ li ps pn cy ca va (upd cn_ (2 : Int32).toNatClampNeg ((cn_ (2 : Int32).toNatClampNeg) + (1 : Int32))) pp px go ne gi gn) := hD
          refine cj_v (wc := (W_Mo cI cL b0 b1 b2 b3 b4 b5 b6 b7 ev wr wg ke_ ma_ li ps pn cy ca va (upd cn_ (2 : Int32).toNatClampNeg ((cn_ (2 : Int32).toNatClampNeg) + (1 : Int32))) pp px go ne gi gn)) (w1 := (W_Mo cI cL b0 b1 b2 b3 b4 b5 b6 b7 ev wr wg ((f_Mo_put ke_ ma_ (nI j) (f_Mo_valueOf ke_ ma_ (nI j))).1) ((f_Mo_put ke_ ma_ (nI j) (f_Mo_valueOf ke_ ma_ (nI j))).2) li ps pn cy ca va (upd cn_ (2 : Int32).toNatClampNeg ((cn_ (2 : Int32).toNatClampNeg) + (1 : Int32))) pp px go ne gi gn)) hP hD hS hA [0, 1, 2, 3, 4, 5, 6, 7] rfl rfl (va_runV (rest := []) ⟨hx, hb, hml, hown, hg⟩ (c_Mo_put l D cI cL b0 b1 b2 b3 b4 b5 b6 b7 _ ev wr wg ke_ ma_ li ps pn cy ca va (upd cn_ (2 : Int32).toNatClampNeg ((cn_ (2 : Int32).toNatClampNeg) + (1 : Int32))) pp px go ne gi gn (nI j) (f_Mo_valueOf ke_ ma_ (nI j)) (vp_in_nI (by omega) (by decide))) ⟨callB_of 2 hg (gw_good m_587) rfl rfl rfl (hg _ m_71) (hg _ m_584) hd_Mo_put ⟨Nat.le_of_ble_eq_true rfl, Nat.le_of_ble_eq_true rfl⟩, hg _ m_586, hg _ m_38⟩ (pw_V hK hN hT hA hP hD hS [0, 1, 2, 3, 4, 5, 6, 7] rfl (by decide) (q0 := 0) (ci := 5) rfl rfl) rfl rfl hl.1 rfl (lv_room (Nat.le_of_ble_eq_true rfl)) d_Mo_vote_90 ⟨Nat.le_of_ble_eq_true rfl, Nat.le_of_ble_eq_true rfl⟩) (fun H locs hP hD hS => ?_)
          have hP : va_P D classes (W_Mo cI cL b0 b1 b2 b3 b4 b5 b6 b7 ev wr wg ((f_Mo_put ke_ ma_ (nI j) (f_Mo_valueOf ke_ ma_ (nI j))).1) ((f_Mo_put ke_ ma_ (nI j) (f_Mo_valueOf ke_ ma_ (nI j))).2) li ps pn cy ca va (upd cn_ (2 : Int32).toNatClampNeg ((cn_ (2 : Int32).toNatClampNeg) + (1 : Int32))) pp px go ne gi gn) H := hP
          have hD : va_D A (W_Mo cI cL b0 b1 b2 b3 b4 b5 b6 b7 ev wr wg ((f_Mo_put ke_ ma_ (nI j) (f_Mo_valueOf ke_ ma_ (nI j))).1) ((f_Mo_put ke_ ma_ (nI j) (f_Mo_valueOf ke_ ma_ (nI j))).2) li ps pn cy ca va (upd cn_ (2 : Int32).toNatClampNeg ((cn_ (2 : Int32).toNatClampNeg) + (1 : Int32))) pp px go ne gi gn) := hD
          refine lv_iinc (k := 1) (v := nI (_ + 1)) (lv' := [(1, .int _), (2, .int _), (0, .ref _)]) hx hb d_Mo_vote_93 hl rfl (nI_1 _) (by decide) rfl (fun ls hl => ?_)
          refine lv_goto (tgt := 2) hx hb d_Mo_vote_96 (by decide) ?_
          have hF : f_Mo_vote_l2  (n + 1) j ke_ ma_ cn_ = _ := ((if_pos h26).trans (if_neg h47))
          rw [hF]
          exact ih (j + 1) _ _ _ _ _ _ (by omega)  (lv_sub hl [0, 2] rfl) hP hD hS
        · refine lv_iconst (v := 1) hx hb d_Mo_vote_50 (by decide) ?_
          refine lv_goto (tgt := 55) hx hb d_Mo_vote_51 (by decide) ?_
          refine lv_istore_n (lv' := [(2, .int _), (1, .int _), (0, .ref _)]) hx hb d_Mo_vote_55 rfl hl (by decide) rfl (fun ls hl => ?_)
          refine lv_aload_n hx hb d_Mo_vote_56 rfl (lv_at hl 2 rfl) ?_
          refine va_get (ci := 5) (C := R_Mo) (T := F_Mo) (N := 18) hx hb hg in_Mo hown hK hP 0 rfl rfl 11 (by decide) (hg _ m_514) (fun _ h => h) rfl d_Mo_vote_57 ?_
          refine lv_iconst (v := 2) hx hb d_Mo_vote_60 (by decide) ?_
          refine lv_iload_n hx hb d_Mo_vote_61 rfl (lv_at hl 0 rfl) ?_
          refine lv_if_eq (tgt := 74) hx hb d_Mo_vote_62 (by decide) (fun h => absurd h (by decide)) (fun _ => ?_)
          refine lv_aload_n hx hb d_Mo_vote_65 rfl (lv_at hl 2 rfl) ?_
          refine va_get (ci := 5) (C := R_Mo) (T := F_Mo) (N := 18) hx hb hg in_Mo hown hK hP 0 rfl rfl 11 (by decide) (hg _ m_514) (fun _ h => h) rfl d_Mo_vote_66 ?_
          refine lv_iconst (v := 2) hx hb d_Mo_vote_69 (by decide) ?_
          refine va_iald hx hb hK hP 7 0 rfl rfl (vp_ofb (by decide)) d_Mo_vote_70 ?_
          refine lv_goto (tgt := 82) hx hb d_Mo_vote_71 (by decide) ?_
          refine va_iast hx hb hK hP hD hS 7 0 rfl rfl (vp_ofb (by decide)) d_Mo_vote_82 (fun H locs hP hD hS => ?_)
          have hP : va_P D classes (W_Mo cI cL b0 b1 b2 b3 b4 b5 b6 b7 ev wr wg ke_ ma_ li ps pn cy ca va (upd cn_ (2 : Int32).toNatClampNeg (cn_ (2 : Int32).toNatClampNeg)) pp px go ne gi gn) H := hP
          have hD : va_D A (W_Mo cI cL b0 b1 b2 b3 b4 b5 b6 b7 ev wr wg ke_ ma_ li ps pn cy ca va (upd cn_ (2 : Int32).toNatClampNeg (cn_ (2 : Int32).toNatClampNeg)) pp px go ne gi gn) := hD
          refine lv_aload_n hx hb d_Mo_vote_83 rfl (lv_at hl 2 rfl) ?_
          refine lv_iload_n hx hb d_Mo_vote_84 rfl (lv_at hl 1 rfl) ?_
          refine lv_aload_n hx hb d_Mo_vote_85 rfl (lv_at hl 2 rfl) ?_
          refine lv_iload_n hx hb d_Mo_vote_86 rfl (lv_at hl 1 rfl) ?_
          refine cj_i (wc := (W_Mo cI cL b0 b1 b2 b3 b4 b5 b6 b7 ev wr wg ke_ ma_ li ps pn cy ca va (upd cn_ (2 : Int32).toNatClampNeg (cn_ (2 : Int32).toNatClampNeg)) pp px go ne gi gn)) (w1 := (W_Mo cI cL b0 b1 b2 b3 b4 b5 b6 b7 ev wr wg ke_ ma_ li ps pn cy ca va (upd cn_ (2 : Int32).toNatClampNeg (cn_ (2 : Int32).toNatClampNeg)) pp px go ne gi gn)) hP hD hS hA [0, 1, 2, 3, 4, 5, 6, 7] rfl rfl (va_runV (rest := [.int _, .ref _]) ⟨hx, hb, hml, hown, hg⟩ (c_Mo_valueOf l D cI cL b0 b1 b2 b3 b4 b5 b6 b7 _ ev wr wg ke_ ma_ li ps pn cy ca va (upd cn_ (2 : Int32).toNatClampNeg (cn_ (2 : Int32).toNatClampNeg)) pp px go ne gi gn (nI j) (vp_in_nI (by omega) (by decide))) ⟨callB_of 1 hg (gw_good m_580) rfl rfl rfl (hg _ m_71) (hg _ m_577) hd_Mo_valueOf ⟨Nat.le_of_ble_eq_true rfl, Nat.le_of_ble_eq_true rfl⟩, hg _ m_579, hg _ m_37⟩ (pw_V hK hN hT hA hP hD hS [0, 1, 2, 3, 4, 5, 6, 7] rfl (by decide) (q0 := 0) (ci := 5) rfl rfl) rfl rfl hl.1 rfl (lv_room (Nat.le_of_ble_eq_true rfl)) d_Mo_vote_87 ⟨Nat.le_of_ble_eq_true rfl, Nat.le_of_ble_eq_true rfl⟩) (fun H locs hP hD hS => ?_)
          have hP : va_P D classes (W_Mo cI cL b0 b1 b2 b3 b4 b5 b6 b7 ev wr wg ke_ ma_ li ps pn cy ca va (upd cn_ (2 : Int32).toNatClampNeg (cn_ (2 : Int32).toNatClampNeg)) pp px go ne gi gn) H := hP
          have hD : va_D A (W_Mo cI cL b0 b1 b2 b3 b4 b5 b6 b7 ev wr wg ke_ ma_ li ps pn cy ca va (upd cn_ (2 : Int32).toNatClampNeg (cn_ (2 : Int32).toNatClampNeg)) pp px go ne gi gn) := hD
          refine cj_v (wc := (W_Mo cI cL b0 b1 b2 b3 b4 b5 b6 b7 ev wr wg ke_ ma_ li ps pn cy ca va (upd cn_ (2 : Int32).toNatClampNeg (cn_ (2 : Int32).toNatClampNeg)) pp px go ne gi gn)) (w1 := (W_Mo cI cL b0 b1 b2 b3 b4 b5 b6 b7 ev wr wg ((f_Mo_put ke_ ma_ (nI j) (f_Mo_valueOf ke_ ma_ (nI j))).1) ((f_Mo_put ke_ ma_ (nI j) (f_Mo_valueOf ke_ ma_ (nI j))).2) li ps pn cy ca va (upd cn_ (2 : Int32).toNatClampNeg (cn_ (2 : Int32).toNatClampNeg)) pp px go ne gi gn)) hP hD hS hA [0, 1, 2, 3, 4, 5, 6, 7] rfl rfl (va_runV (rest := []) ⟨hx, hb, hml, hown, hg⟩ (c_Mo_put l D cI cL b0 b1 b2 b3 b4 b5 b6 b7 _ ev wr wg ke_ ma_ li ps pn cy ca va (upd cn_ (2 : Int32).toNatClampNeg (cn_ (2 : Int32).toNatClampNeg)) pp px go ne gi gn (nI j) (f_Mo_valueOf ke_ ma_ (nI j)) (vp_in_nI (by omega) (by decide))) ⟨callB_of 2 hg (gw_good m_587) rfl rfl rfl (hg _ m_71) (hg _ m_584) hd_Mo_put ⟨Nat.le_of_ble_eq_true rfl, Nat.le_of_ble_eq_true rfl⟩, hg _ m_586, hg _ m_38⟩ (pw_V hK hN hT hA hP hD hS [0, 1, 2, 3, 4, 5, 6, 7] rfl (by decide) (q0 := 0) (ci := 5) rfl rfl) rfl rfl hl.1 rfl (lv_room (Nat.le_of_ble_eq_true rfl)) d_Mo_vote_90 ⟨Nat.le_of_ble_eq_true rfl, Nat.le_of_ble_eq_true rfl⟩) (fun H locs hP hD hS => ?_)
          have hP : va_P D classes (W_Mo cI cL b0 b1 b2 b3 b4 b5 b6 b7 ev wr wg ((f_Mo_put ke_ ma_ (nI j) (f_Mo_valueOf ke_ ma_ (nI j))).1) ((f_Mo_put ke_ ma_ (nI j) (f_Mo_valueOf ke_ ma_ (nI j))).2) li ps pn cy ca va (upd cn_ (2 : Int32).toNatClampNeg (cn_ (2 : Int32).toNatClampNeg)) pp px go ne gi gn) H := hP
          have hD : va_D A (W_Mo cI cL b0 b1 b2 b3 b4 b5 b6 b7 ev wr wg ((f_Mo_put ke_ ma_ (nI j) (f_Mo_valueOf ke_ ma_ (nI j))).1) ((f_Mo_put ke_ ma_ (nI j) (f_Mo_valueOf ke_ ma_ (nI j))).2) li ps pn cy ca va (upd cn_ (2 : Int32).toNatClampNeg (cn_ (2 : Int32).toNatClampNeg)) pp px go ne gi gn) := hD
          refine lv_iinc (k := 1) (v := nI (_ + 1)) (lv' := [(1, .int _), (2, .int _), (0, .ref _)]) hx hb d_Mo_vote_93 hl rfl (nI_1 _) (by decide) rfl (fun ls hl => ?_)
          refine lv_goto (tgt := 2) hx hb d_Mo_vote_96 (by decide) ?_
          have hF : f_Mo_vote_l2  (n + 1) j ke_ ma_ cn_ = _ := ((if_pos h26).trans (if_pos h47))
          rw [hF]
          exact ih (j + 1) _ _ _ _ _ _ (by omega)  (lv_sub hl [0, 2] rfl) hP hD hS
  exact loop 32 0 _ _ _ _ _ _ (by omega)  hl hP hD hS
abbrev q_Mo_field (D : va_G) (cI cL : ClassId) (b0 b1 b2 b3 b4 b5 b6 b7 : Nat) (A : Nat → Prop) (ev : Int32) (wr : Nat → Int32) (wg : Nat → Int64) (ke : Nat → Int32) (ma : Nat → Int32) (li : Nat → Int64) (ps : Int32) (pn : Nat → Int32) (cy : Int32) (ca : Int32) (va : Int32) (cn : Nat → Int32) (pp : Int32) (px : Int32) (go : Int32) (ne : Int32) (gi : Int32) (gn : Int32) (F : Int32) : Array Value → State → Outcome → State → Prop := va_Qi (fun r (_ : Unit) => r = F) (fun _ t => va_P D classes (W_Mo cI cL b0 b1 b2 b3 b4 b5 b6 b7 ev wr wg ke ma li ps pn cy ca va cn pp px go ne gi gn) t.heap) A
set_option maxHeartbeats 4000000 in
set_option maxRecDepth 100000 in
theorem c_Mo_field (l : Launch) (D : va_G) (cI cL : ClassId) (b0 b1 b2 b3 b4 b5 b6 b7 : Nat) (sz : Nat) (ev : Int32) (wr : Nat → Int32) (wg : Nat → Int64) (ke : Nat → Int32) (ma : Nat → Int32) (li : Nat → Int64) (ps : Int32) (pn : Nat → Int32) (cy : Int32) (ca : Int32) (va : Int32) (cn : Nat → Int32) (pp : Int32) (px : Int32) (go : Int32) (ne : Int32) (gi : Int32) (gn : Int32) (fr : Int32) (bi : Int32)  : Met l y_Mo_field w_Mo_field ({ frames := 0, cells := 0, slots := 0, locals := 0 }) (va_Pc [.ref b0, .int fr, .int bi] (PW D cI cL (W_Mo cI cL b0 b1 b2 b3 b4 b5 b6 b7 ev wr wg ke ma li ps pn cy ca va cn pp px go ne gi gn) sz)) (q_Mo_field D cI cL b0 b1 b2 b3 b4 b5 b6 b7 (va_A (W_Mo cI cL b0 b1 b2 b3 b4 b5 b6 b7 ev wr wg ke ma li ps pn cy ca va cn pp px go ne gi gn) sz) ev wr wg ke ma li ps pn cy ca va cn pp px go ne gi gn (f_Mo_field px fr bi)) 0 0 (va_A (W_Mo cI cL b0 b1 b2 b3 b4 b5 b6 b7 ev wr wg ke ma li ps pn cy ca va cn pp px go ne gi gn) sz) := by
  refine mk_met (Qf := fun A => q_Mo_field D cI cL b0 b1 b2 b3 b4 b5 b6 b7 A ev wr wg ke ma li ps pn cy ca va cn pp px go ne gi gn (f_Mo_field px fr bi)) (by decide) (Nat.le_of_ble_eq_true rfl) ?_
  intro p e s m below meth c A ls hx hb hr hlocks hml hown hg hK hN hT hA hP hD hS hnm hl
  refine lv_aload_n hx hb d_Mo_field_0 rfl (lv_at hl 0 rfl) ?_
  refine va_get (ci := 5) (C := R_Mo) (T := F_Mo) (N := 18) hx hb hg in_Mo hown hK hP 0 rfl rfl 13 (by decide) (hg _ m_516) (fun _ h => h) rfl d_Mo_field_1 ?_
  refine lv_iload_n hx hb d_Mo_field_4 rfl (lv_at hl 1 rfl) ?_
  refine lv_iushr (v := u_ush _ _) hx hb d_Mo_field_5 rfl ?_
  refine lv_iconst (v := 1) hx hb d_Mo_field_6 (by decide) ?_
  refine lv_iload_n hx hb d_Mo_field_7 rfl (lv_at hl 2 rfl) ?_
  refine lv_ishl hx hb d_Mo_field_8 ?_
  refine lv_iconst (v := 1) hx hb d_Mo_field_9 (by decide) ?_
  refine lv_isub hx hb d_Mo_field_10 ?_
  refine lv_iand hx hb d_Mo_field_11 ?_
  exact W.iret hx hb hr (fun t ht hW => ⟨⟨_, (), rfl, rfl, by show va_P D classes _ t.heap; rw [ht]; exact hP⟩, hS.F ht⟩) hS.2.2 d_Mo_field_12 hlocks
abbrev q_Mo_numberJ (D : va_G) (cI cL : ClassId) (b0 b1 b2 b3 b4 b5 b6 b7 : Nat) (A : Nat → Prop) (ev : Int32) (wr : Nat → Int32) (wg : Nat → Int64) (ke : Nat → Int32) (ma : Nat → Int32) (li : Nat → Int64) (ps : Int32) (pn : Nat → Int32) (cy : Int32) (ca : Int32) (va : Int32) (cn : Nat → Int32) (pp : Int32) (px : Int32) (go : Int32) (ne : Int32) (gi : Int32) (gn : Int32) (F : Int32) : Array Value → State → Outcome → State → Prop := va_Qi (fun r (_ : Unit) => r = F) (fun _ t => va_P D classes (W_Mo cI cL b0 b1 b2 b3 b4 b5 b6 b7 ev wr wg ke ma li ps pn cy ca va cn pp px go ne gi gn) t.heap) A
set_option maxHeartbeats 4000000 in
set_option maxRecDepth 100000 in
theorem c_Mo_numberJ (l : Launch) (D : va_G) (cI cL : ClassId) (b0 b1 b2 b3 b4 b5 b6 b7 : Nat) (sz : Nat) (ev : Int32) (wr : Nat → Int32) (wg : Nat → Int64) (ke : Nat → Int32) (ma : Nat → Int32) (li : Nat → Int64) (ps : Int32) (pn : Nat → Int32) (cy : Int32) (ca : Int32) (va : Int32) (cn : Nat → Int32) (pp : Int32) (px : Int32) (go : Int32) (ne : Int32) (gi : Int32) (gn : Int32)   : Met l y_Mo_numberJ w_Mo_numberJ ({ frames := 1, cells := 0, slots := 0, locals := 22 }) (va_Pc [.ref b0] (PW D cI cL (W_Mo cI cL b0 b1 b2 b3 b4 b5 b6 b7 ev wr wg ke ma li ps pn cy ca va cn pp px go ne gi gn) sz)) (q_Mo_numberJ D cI cL b0 b1 b2 b3 b4 b5 b6 b7 (va_A (W_Mo cI cL b0 b1 b2 b3 b4 b5 b6 b7 ev wr wg ke ma li ps pn cy ca va cn pp px go ne gi gn) sz) ev wr wg ke ma li ps pn cy ca va cn pp px go ne gi gn (f_Mo_numberJ px)) 0 0 (va_A (W_Mo cI cL b0 b1 b2 b3 b4 b5 b6 b7 ev wr wg ke ma li ps pn cy ca va cn pp px go ne gi gn) sz) := by
  refine mk_met (Qf := fun A => q_Mo_numberJ D cI cL b0 b1 b2 b3 b4 b5 b6 b7 A ev wr wg ke ma li ps pn cy ca va cn pp px go ne gi gn (f_Mo_numberJ px)) (by decide) (Nat.le_of_ble_eq_true rfl) ?_
  intro p e s m below meth c A ls hx hb hr hlocks hml hown hg hK hN hT hA hP hD hS hnm hl
  refine lv_aload_n hx hb d_Mo_numberJ_0 rfl (lv_at hl 0 rfl) ?_
  refine va_get (ci := 5) (C := R_Mo) (T := F_Mo) (N := 18) hx hb hg in_Mo hown hK hP 0 rfl rfl 13 (by decide) (hg _ m_516) (fun _ h => h) rfl d_Mo_numberJ_1 ?_
  refine lv_bipush (v := 25) hx hb d_Mo_numberJ_4 (by decide) ?_
  refine lv_ishr hx hb d_Mo_numberJ_6 ?_
  refine lv_iconst (v := 5) hx hb d_Mo_numberJ_7 (by decide) ?_
  refine lv_ishl hx hb d_Mo_numberJ_8 ?_
  refine lv_aload_n hx hb d_Mo_numberJ_9 rfl (lv_at hl 0 rfl) ?_
  refine lv_bipush (v := 7) hx hb d_Mo_numberJ_10 (by decide) ?_
  refine lv_iconst (v := 5) hx hb d_Mo_numberJ_12 (by decide) ?_
  refine cj_i (wc := (W_Mo cI cL b0 b1 b2 b3 b4 b5 b6 b7 ev wr wg ke ma li ps pn cy ca va cn pp px go ne gi gn)) (w1 := (W_Mo cI cL b0 b1 b2 b3 b4 b5 b6 b7 ev wr wg ke ma li ps pn cy ca va cn pp px go ne gi gn)) hP hD hS hA [0, 1, 2, 3, 4, 5, 6, 7] rfl rfl (va_runV (rest := [.int _]) ⟨hx, hb, hml, hown, hg⟩ (c_Mo_field l D cI cL b0 b1 b2 b3 b4 b5 b6 b7 _ ev wr wg ke ma li ps pn cy ca va cn pp px go ne gi gn (7 : Int32) (5 : Int32)) ⟨callB_of 2 hg (gw_good m_637) rfl rfl rfl (hg _ m_71) (hg _ m_634) hd_Mo_field ⟨Nat.le_of_ble_eq_true rfl, Nat.le_of_ble_eq_true rfl⟩, hg _ m_636, hg _ m_45⟩ (pw_V hK hN hT hA hP hD hS [0, 1, 2, 3, 4, 5, 6, 7] rfl (by decide) (q0 := 0) (ci := 5) rfl rfl) rfl rfl hl.1 rfl (lv_room (Nat.le_of_ble_eq_true rfl)) d_Mo_numberJ_13 ⟨Nat.le_of_ble_eq_true rfl, Nat.le_of_ble_eq_true rfl⟩) (fun H locs hP hD hS => ?_)
  have hP : va_P D classes (W_Mo cI cL b0 b1 b2 b3 b4 b5 b6 b7 ev wr wg ke ma li ps pn cy ca va cn pp px go ne gi gn) H := hP
  have hD : va_D A (W_Mo cI cL b0 b1 b2 b3 b4 b5 b6 b7 ev wr wg ke ma li ps pn cy ca va cn pp px go ne gi gn) := hD
  refine lv_ior hx hb d_Mo_numberJ_16 ?_
  exact W.iret hx hb hr (fun t ht hW => ⟨⟨_, (), rfl, rfl, by show va_P D classes _ t.heap; rw [ht]; exact hP⟩, hS.F ht⟩) hS.2.2 d_Mo_numberJ_17 hlocks
abbrev q_Mo_numberK (D : va_G) (cI cL : ClassId) (b0 b1 b2 b3 b4 b5 b6 b7 : Nat) (A : Nat → Prop) (ev : Int32) (wr : Nat → Int32) (wg : Nat → Int64) (ke : Nat → Int32) (ma : Nat → Int32) (li : Nat → Int64) (ps : Int32) (pn : Nat → Int32) (cy : Int32) (ca : Int32) (va : Int32) (cn : Nat → Int32) (pp : Int32) (px : Int32) (go : Int32) (ne : Int32) (gi : Int32) (gn : Int32) (F : Int32) : Array Value → State → Outcome → State → Prop := va_Qi (fun r (_ : Unit) => r = F) (fun _ t => va_P D classes (W_Mo cI cL b0 b1 b2 b3 b4 b5 b6 b7 ev wr wg ke ma li ps pn cy ca va cn pp px go ne gi gn) t.heap) A
set_option maxHeartbeats 4000000 in
set_option maxRecDepth 100000 in
theorem c_Mo_numberK (l : Launch) (D : va_G) (cI cL : ClassId) (b0 b1 b2 b3 b4 b5 b6 b7 : Nat) (sz : Nat) (ev : Int32) (wr : Nat → Int32) (wg : Nat → Int64) (ke : Nat → Int32) (ma : Nat → Int32) (li : Nat → Int64) (ps : Int32) (pn : Nat → Int32) (cy : Int32) (ca : Int32) (va : Int32) (cn : Nat → Int32) (pp : Int32) (px : Int32) (go : Int32) (ne : Int32) (gi : Int32) (gn : Int32)   : Met l y_Mo_numberK w_Mo_numberK ({ frames := 1, cells := 0, slots := 0, locals := 22 }) (va_Pc [.ref b0] (PW D cI cL (W_Mo cI cL b0 b1 b2 b3 b4 b5 b6 b7 ev wr wg ke ma li ps pn cy ca va cn pp px go ne gi gn) sz)) (q_Mo_numberK D cI cL b0 b1 b2 b3 b4 b5 b6 b7 (va_A (W_Mo cI cL b0 b1 b2 b3 b4 b5 b6 b7 ev wr wg ke ma li ps pn cy ca va cn pp px go ne gi gn) sz) ev wr wg ke ma li ps pn cy ca va cn pp px go ne gi gn (f_Mo_numberK px)) 0 0 (va_A (W_Mo cI cL b0 b1 b2 b3 b4 b5 b6 b7 ev wr wg ke ma li ps pn cy ca va cn pp px go ne gi gn) sz) := by
  refine mk_met (Qf := fun A => q_Mo_numberK D cI cL b0 b1 b2 b3 b4 b5 b6 b7 A ev wr wg ke ma li ps pn cy ca va cn pp px go ne gi gn (f_Mo_numberK px)) (by decide) (Nat.le_of_ble_eq_true rfl) ?_
  intro p e s m below meth c A ls hx hb hr hlocks hml hown hg hK hN hT hA hP hD hS hnm hl
  refine lv_aload_n hx hb d_Mo_numberK_0 rfl (lv_at hl 0 rfl) ?_
  refine va_get (ci := 5) (C := R_Mo) (T := F_Mo) (N := 18) hx hb hg in_Mo hown hK hP 0 rfl rfl 13 (by decide) (hg _ m_516) (fun _ h => h) rfl d_Mo_numberK_1 ?_
  refine lv_bipush (v := 31) hx hb d_Mo_numberK_4 (by decide) ?_
  refine lv_ishr hx hb d_Mo_numberK_6 ?_
  refine lv_bipush (v := 12) hx hb d_Mo_numberK_7 (by decide) ?_
  refine lv_ishl hx hb d_Mo_numberK_9 ?_
  refine lv_aload_n hx hb d_Mo_numberK_10 rfl (lv_at hl 0 rfl) ?_
  refine lv_bipush (v := 7) hx hb d_Mo_numberK_11 (by decide) ?_
  refine lv_iconst (v := 1) hx hb d_Mo_numberK_13 (by decide) ?_
  refine cj_i (wc := (W_Mo cI cL b0 b1 b2 b3 b4 b5 b6 b7 ev wr wg ke ma li ps pn cy ca va cn pp px go ne gi gn)) (w1 := (W_Mo cI cL b0 b1 b2 b3 b4 b5 b6 b7 ev wr wg ke ma li ps pn cy ca va cn pp px go ne gi gn)) hP hD hS hA [0, 1, 2, 3, 4, 5, 6, 7] rfl rfl (va_runV (rest := [.int _]) ⟨hx, hb, hml, hown, hg⟩ (c_Mo_field l D cI cL b0 b1 b2 b3 b4 b5 b6 b7 _ ev wr wg ke ma li ps pn cy ca va cn pp px go ne gi gn (7 : Int32) (1 : Int32)) ⟨callB_of 2 hg (gw_good m_637) rfl rfl rfl (hg _ m_71) (hg _ m_634) hd_Mo_field ⟨Nat.le_of_ble_eq_true rfl, Nat.le_of_ble_eq_true rfl⟩, hg _ m_636, hg _ m_45⟩ (pw_V hK hN hT hA hP hD hS [0, 1, 2, 3, 4, 5, 6, 7] rfl (by decide) (q0 := 0) (ci := 5) rfl rfl) rfl rfl hl.1 rfl (lv_room (Nat.le_of_ble_eq_true rfl)) d_Mo_numberK_14 ⟨Nat.le_of_ble_eq_true rfl, Nat.le_of_ble_eq_true rfl⟩) (fun H locs hP hD hS => ?_)
  have hP : va_P D classes (W_Mo cI cL b0 b1 b2 b3 b4 b5 b6 b7 ev wr wg ke ma li ps pn cy ca va cn pp px go ne gi gn) H := hP
  have hD : va_D A (W_Mo cI cL b0 b1 b2 b3 b4 b5 b6 b7 ev wr wg ke ma li ps pn cy ca va cn pp px go ne gi gn) := hD
  refine lv_bipush (v := 11) hx hb d_Mo_numberK_17 (by decide) ?_
  refine lv_ishl hx hb d_Mo_numberK_19 ?_
  refine lv_ior hx hb d_Mo_numberK_20 ?_
  refine lv_aload_n hx hb d_Mo_numberK_21 rfl (lv_at hl 0 rfl) ?_
  refine lv_bipush (v := 25) hx hb d_Mo_numberK_22 (by decide) ?_
  refine lv_bipush (v := 6) hx hb d_Mo_numberK_24 (by decide) ?_
  refine cj_i (wc := (W_Mo cI cL b0 b1 b2 b3 b4 b5 b6 b7 ev wr wg ke ma li ps pn cy ca va cn pp px go ne gi gn)) (w1 := (W_Mo cI cL b0 b1 b2 b3 b4 b5 b6 b7 ev wr wg ke ma li ps pn cy ca va cn pp px go ne gi gn)) hP hD hS hA [0, 1, 2, 3, 4, 5, 6, 7] rfl rfl (va_runV (rest := [.int _]) ⟨hx, hb, hml, hown, hg⟩ (c_Mo_field l D cI cL b0 b1 b2 b3 b4 b5 b6 b7 _ ev wr wg ke ma li ps pn cy ca va cn pp px go ne gi gn (25 : Int32) (6 : Int32)) ⟨callB_of 2 hg (gw_good m_637) rfl rfl rfl (hg _ m_71) (hg _ m_634) hd_Mo_field ⟨Nat.le_of_ble_eq_true rfl, Nat.le_of_ble_eq_true rfl⟩, hg _ m_636, hg _ m_45⟩ (pw_V hK hN hT hA hP hD hS [0, 1, 2, 3, 4, 5, 6, 7] rfl (by decide) (q0 := 0) (ci := 5) rfl rfl) rfl rfl hl.1 rfl (lv_room (Nat.le_of_ble_eq_true rfl)) d_Mo_numberK_26 ⟨Nat.le_of_ble_eq_true rfl, Nat.le_of_ble_eq_true rfl⟩) (fun H locs hP hD hS => ?_)
  have hP : va_P D classes (W_Mo cI cL b0 b1 b2 b3 b4 b5 b6 b7 ev wr wg ke ma li ps pn cy ca va cn pp px go ne gi gn) H := hP
  have hD : va_D A (W_Mo cI cL b0 b1 b2 b3 b4 b5 b6 b7 ev wr wg ke ma li ps pn cy ca va cn pp px go ne gi gn) := hD
  refine lv_iconst (v := 5) hx hb d_Mo_numberK_29 (by decide) ?_
  refine lv_ishl hx hb d_Mo_numberK_30 ?_
  refine lv_ior hx hb d_Mo_numberK_31 ?_
  refine lv_aload_n hx hb d_Mo_numberK_32 rfl (lv_at hl 0 rfl) ?_
  refine lv_bipush (v := 8) hx hb d_Mo_numberK_33 (by decide) ?_
  refine lv_iconst (v := 4) hx hb d_Mo_numberK_35 (by decide) ?_
  refine cj_i (wc := (W_Mo cI cL b0 b1 b2 b3 b4 b5 b6 b7 ev wr wg ke ma li ps pn cy ca va cn pp px go ne gi gn)) (w1 := (W_Mo cI cL b0 b1 b2 b3 b4 b5 b6 b7 ev wr wg ke ma li ps pn cy ca va cn pp px go ne gi gn)) hP hD hS hA [0, 1, 2, 3, 4, 5, 6, 7] rfl rfl (va_runV (rest := [.int _]) ⟨hx, hb, hml, hown, hg⟩ (c_Mo_field l D cI cL b0 b1 b2 b3 b4 b5 b6 b7 _ ev wr wg ke ma li ps pn cy ca va cn pp px go ne gi gn (8 : Int32) (4 : Int32)) ⟨callB_of 2 hg (gw_good m_637) rfl rfl rfl (hg _ m_71) (hg _ m_634) hd_Mo_field ⟨Nat.le_of_ble_eq_true rfl, Nat.le_of_ble_eq_true rfl⟩, hg _ m_636, hg _ m_45⟩ (pw_V hK hN hT hA hP hD hS [0, 1, 2, 3, 4, 5, 6, 7] rfl (by decide) (q0 := 0) (ci := 5) rfl rfl) rfl rfl hl.1 rfl (lv_room (Nat.le_of_ble_eq_true rfl)) d_Mo_numberK_36 ⟨Nat.le_of_ble_eq_true rfl, Nat.le_of_ble_eq_true rfl⟩) (fun H locs hP hD hS => ?_)
  have hP : va_P D classes (W_Mo cI cL b0 b1 b2 b3 b4 b5 b6 b7 ev wr wg ke ma li ps pn cy ca va cn pp px go ne gi gn) H := hP
  have hD : va_D A (W_Mo cI cL b0 b1 b2 b3 b4 b5 b6 b7 ev wr wg ke ma li ps pn cy ca va cn pp px go ne gi gn) := hD
  refine lv_iconst (v := 1) hx hb d_Mo_numberK_39 (by decide) ?_
  refine lv_ishl hx hb d_Mo_numberK_40 ?_
  refine lv_ior hx hb d_Mo_numberK_41 ?_
  exact W.iret hx hb hr (fun t ht hW => ⟨⟨_, (), rfl, rfl, by show va_P D classes _ t.heap; rw [ht]; exact hP⟩, hS.F ht⟩) hS.2.2 d_Mo_numberK_42 hlocks
abbrev q_Mo_numberL (D : va_G) (cI cL : ClassId) (b0 b1 b2 b3 b4 b5 b6 b7 : Nat) (A : Nat → Prop) (ev : Int32) (wr : Nat → Int32) (wg : Nat → Int64) (ke : Nat → Int32) (ma : Nat → Int32) (li : Nat → Int64) (ps : Int32) (pn : Nat → Int32) (cy : Int32) (ca : Int32) (va : Int32) (cn : Nat → Int32) (pp : Int32) (px : Int32) (go : Int32) (ne : Int32) (gi : Int32) (gn : Int32) (F : Int32) : Array Value → State → Outcome → State → Prop := va_Qi (fun r (_ : Unit) => r = F) (fun _ t => va_P D classes (W_Mo cI cL b0 b1 b2 b3 b4 b5 b6 b7 ev wr wg ke ma li ps pn cy ca va cn pp px go ne gi gn) t.heap) A
set_option maxHeartbeats 4000000 in
set_option maxRecDepth 100000 in
theorem c_Mo_numberL (l : Launch) (D : va_G) (cI cL : ClassId) (b0 b1 b2 b3 b4 b5 b6 b7 : Nat) (sz : Nat) (ev : Int32) (wr : Nat → Int32) (wg : Nat → Int64) (ke : Nat → Int32) (ma : Nat → Int32) (li : Nat → Int64) (ps : Int32) (pn : Nat → Int32) (cy : Int32) (ca : Int32) (va : Int32) (cn : Nat → Int32) (pp : Int32) (px : Int32) (go : Int32) (ne : Int32) (gi : Int32) (gn : Int32)   : Met l y_Mo_numberL w_Mo_numberL ({ frames := 1, cells := 0, slots := 0, locals := 22 }) (va_Pc [.ref b0] (PW D cI cL (W_Mo cI cL b0 b1 b2 b3 b4 b5 b6 b7 ev wr wg ke ma li ps pn cy ca va cn pp px go ne gi gn) sz)) (q_Mo_numberL D cI cL b0 b1 b2 b3 b4 b5 b6 b7 (va_A (W_Mo cI cL b0 b1 b2 b3 b4 b5 b6 b7 ev wr wg ke ma li ps pn cy ca va cn pp px go ne gi gn) sz) ev wr wg ke ma li ps pn cy ca va cn pp px go ne gi gn (f_Mo_numberL px)) 0 0 (va_A (W_Mo cI cL b0 b1 b2 b3 b4 b5 b6 b7 ev wr wg ke ma li ps pn cy ca va cn pp px go ne gi gn) sz) := by
  refine mk_met (Qf := fun A => q_Mo_numberL D cI cL b0 b1 b2 b3 b4 b5 b6 b7 A ev wr wg ke ma li ps pn cy ca va cn pp px go ne gi gn (f_Mo_numberL px)) (by decide) (Nat.le_of_ble_eq_true rfl) ?_
  intro p e s m below meth c A ls hx hb hr hlocks hml hown hg hK hN hT hA hP hD hS hnm hl
  refine lv_aload_n hx hb d_Mo_numberL_0 rfl (lv_at hl 0 rfl) ?_
  refine va_get (ci := 5) (C := R_Mo) (T := F_Mo) (N := 18) hx hb hg in_Mo hown hK hP 0 rfl rfl 13 (by decide) (hg _ m_516) (fun _ h => h) rfl d_Mo_numberL_1 ?_
  refine lv_bipush (v := 31) hx hb d_Mo_numberL_4 (by decide) ?_
  refine lv_ishr hx hb d_Mo_numberL_6 ?_
  refine lv_bipush (v := 20) hx hb d_Mo_numberL_7 (by decide) ?_
  refine lv_ishl hx hb d_Mo_numberL_9 ?_
  refine lv_aload_n hx hb d_Mo_numberL_10 rfl (lv_at hl 0 rfl) ?_
  refine lv_bipush (v := 12) hx hb d_Mo_numberL_11 (by decide) ?_
  refine lv_bipush (v := 8) hx hb d_Mo_numberL_13 (by decide) ?_
  refine cj_i (wc := (W_Mo cI cL b0 b1 b2 b3 b4 b5 b6 b7 ev wr wg ke ma li ps pn cy ca va cn pp px go ne gi gn)) (w1 := (W_Mo cI cL b0 b1 b2 b3 b4 b5 b6 b7 ev wr wg ke ma li ps pn cy ca va cn pp px go ne gi gn)) hP hD hS hA [0, 1, 2, 3, 4, 5, 6, 7] rfl rfl (va_runV (rest := [.int _]) ⟨hx, hb, hml, hown, hg⟩ (c_Mo_field l D cI cL b0 b1 b2 b3 b4 b5 b6 b7 _ ev wr wg ke ma li ps pn cy ca va cn pp px go ne gi gn (12 : Int32) (8 : Int32)) ⟨callB_of 2 hg (gw_good m_637) rfl rfl rfl (hg _ m_71) (hg _ m_634) hd_Mo_field ⟨Nat.le_of_ble_eq_true rfl, Nat.le_of_ble_eq_true rfl⟩, hg _ m_636, hg _ m_45⟩ (pw_V hK hN hT hA hP hD hS [0, 1, 2, 3, 4, 5, 6, 7] rfl (by decide) (q0 := 0) (ci := 5) rfl rfl) rfl rfl hl.1 rfl (lv_room (Nat.le_of_ble_eq_true rfl)) d_Mo_numberL_15 ⟨Nat.le_of_ble_eq_true rfl, Nat.le_of_ble_eq_true rfl⟩) (fun H locs hP hD hS => ?_)
  have hP : va_P D classes (W_Mo cI cL b0 b1 b2 b3 b4 b5 b6 b7 ev wr wg ke ma li ps pn cy ca va cn pp px go ne gi gn) H := hP
  have hD : va_D A (W_Mo cI cL b0 b1 b2 b3 b4 b5 b6 b7 ev wr wg ke ma li ps pn cy ca va cn pp px go ne gi gn) := hD
  refine lv_bipush (v := 12) hx hb d_Mo_numberL_18 (by decide) ?_
  refine lv_ishl hx hb d_Mo_numberL_20 ?_
  refine lv_ior hx hb d_Mo_numberL_21 ?_
  refine lv_aload_n hx hb d_Mo_numberL_22 rfl (lv_at hl 0 rfl) ?_
  refine lv_bipush (v := 20) hx hb d_Mo_numberL_23 (by decide) ?_
  refine lv_iconst (v := 1) hx hb d_Mo_numberL_25 (by decide) ?_
  refine cj_i (wc := (W_Mo cI cL b0 b1 b2 b3 b4 b5 b6 b7 ev wr wg ke ma li ps pn cy ca va cn pp px go ne gi gn)) (w1 := (W_Mo cI cL b0 b1 b2 b3 b4 b5 b6 b7 ev wr wg ke ma li ps pn cy ca va cn pp px go ne gi gn)) hP hD hS hA [0, 1, 2, 3, 4, 5, 6, 7] rfl rfl (va_runV (rest := [.int _]) ⟨hx, hb, hml, hown, hg⟩ (c_Mo_field l D cI cL b0 b1 b2 b3 b4 b5 b6 b7 _ ev wr wg ke ma li ps pn cy ca va cn pp px go ne gi gn (20 : Int32) (1 : Int32)) ⟨callB_of 2 hg (gw_good m_637) rfl rfl rfl (hg _ m_71) (hg _ m_634) hd_Mo_field ⟨Nat.le_of_ble_eq_true rfl, Nat.le_of_ble_eq_true rfl⟩, hg _ m_636, hg _ m_45⟩ (pw_V hK hN hT hA hP hD hS [0, 1, 2, 3, 4, 5, 6, 7] rfl (by decide) (q0 := 0) (ci := 5) rfl rfl) rfl rfl hl.1 rfl (lv_room (Nat.le_of_ble_eq_true rfl)) d_Mo_numberL_26 ⟨Nat.le_of_ble_eq_true rfl, Nat.le_of_ble_eq_true rfl⟩) (fun H locs hP hD hS => ?_)
  have hP : va_P D classes (W_Mo cI cL b0 b1 b2 b3 b4 b5 b6 b7 ev wr wg ke ma li ps pn cy ca va cn pp px go ne gi gn) H := hP
  have hD : va_D A (W_Mo cI cL b0 b1 b2 b3 b4 b5 b6 b7 ev wr wg ke ma li ps pn cy ca va cn pp px go ne gi gn) := hD
  refine lv_bipush (v := 11) hx hb d_Mo_numberL_29 (by decide) ?_
  refine lv_ishl hx hb d_Mo_numberL_31 ?_
  refine lv_ior hx hb d_Mo_numberL_32 ?_
  refine lv_aload_n hx hb d_Mo_numberL_33 rfl (lv_at hl 0 rfl) ?_
  refine lv_bipush (v := 21) hx hb d_Mo_numberL_34 (by decide) ?_
  refine lv_bipush (v := 10) hx hb d_Mo_numberL_36 (by decide) ?_
  refine cj_i (wc := (W_Mo cI cL b0 b1 b2 b3 b4 b5 b6 b7 ev wr wg ke ma li ps pn cy ca va cn pp px go ne gi gn)) (w1 := (W_Mo cI cL b0 b1 b2 b3 b4 b5 b6 b7 ev wr wg ke ma li ps pn cy ca va cn pp px go ne gi gn)) hP hD hS hA [0, 1, 2, 3, 4, 5, 6, 7] rfl rfl (va_runV (rest := [.int _]) ⟨hx, hb, hml, hown, hg⟩ (c_Mo_field l D cI cL b0 b1 b2 b3 b4 b5 b6 b7 _ ev wr wg ke ma li ps pn cy ca va cn pp px go ne gi gn (21 : Int32) (10 : Int32)) ⟨callB_of 2 hg (gw_good m_637) rfl rfl rfl (hg _ m_71) (hg _ m_634) hd_Mo_field ⟨Nat.le_of_ble_eq_true rfl, Nat.le_of_ble_eq_true rfl⟩, hg _ m_636, hg _ m_45⟩ (pw_V hK hN hT hA hP hD hS [0, 1, 2, 3, 4, 5, 6, 7] rfl (by decide) (q0 := 0) (ci := 5) rfl rfl) rfl rfl hl.1 rfl (lv_room (Nat.le_of_ble_eq_true rfl)) d_Mo_numberL_38 ⟨Nat.le_of_ble_eq_true rfl, Nat.le_of_ble_eq_true rfl⟩) (fun H locs hP hD hS => ?_)
  have hP : va_P D classes (W_Mo cI cL b0 b1 b2 b3 b4 b5 b6 b7 ev wr wg ke ma li ps pn cy ca va cn pp px go ne gi gn) H := hP
  have hD : va_D A (W_Mo cI cL b0 b1 b2 b3 b4 b5 b6 b7 ev wr wg ke ma li ps pn cy ca va cn pp px go ne gi gn) := hD
  refine lv_iconst (v := 1) hx hb d_Mo_numberL_41 (by decide) ?_
  refine lv_ishl hx hb d_Mo_numberL_42 ?_
  refine lv_ior hx hb d_Mo_numberL_43 ?_
  exact W.iret hx hb hr (fun t ht hW => ⟨⟨_, (), rfl, rfl, by show va_P D classes _ t.heap; rw [ht]; exact hP⟩, hS.F ht⟩) hS.2.2 d_Mo_numberL_44 hlocks
abbrev q_Mo_give (D : va_G) (cI cL : ClassId) (b0 b1 b2 b3 b4 b5 b6 b7 : Nat) (A : Nat → Prop) (ev : Int32) (wr : Nat → Int32) (wg : Nat → Int64) (ke : Nat → Int32) (ma : Nat → Int32) (li : Nat → Int64) (ps : Int32) (pn : Nat → Int32) (cy : Int32) (ca : Int32) (va : Int32) (cn : Nat → Int32) (pp : Int32) (px : Int32) (go : Int32) (ne : Int32) (gi : Int32) (gn : Int32) (F : Int32 × Int32) : Array Value → State → Outcome → State → Prop := va_Qv (fun (_ : Unit) => True) (fun _ t => va_P D classes (W_Mo cI cL b0 b1 b2 b3 b4 b5 b6 b7 ev wr wg ke ma li ps pn cy ca va cn pp px go ne F.1 F.2) t.heap) A
set_option maxHeartbeats 4000000 in
set_option maxRecDepth 100000 in
theorem c_Mo_give (l : Launch) (D : va_G) (cI cL : ClassId) (b0 b1 b2 b3 b4 b5 b6 b7 : Nat) (sz : Nat) (ev : Int32) (wr : Nat → Int32) (wg : Nat → Int64) (ke : Nat → Int32) (ma : Nat → Int32) (li : Nat → Int64) (ps : Int32) (pn : Nat → Int32) (cy : Int32) (ca : Int32) (va : Int32) (cn : Nat → Int32) (pp : Int32) (px : Int32) (go : Int32) (ne : Int32) (gi : Int32) (gn : Int32) (v : Int32)  : Met l y_Mo_give w_Mo_give ({ frames := 0, cells := 0, slots := 0, locals := 0 }) (va_Pc [.ref b0, .int v] (PW D cI cL (W_Mo cI cL b0 b1 b2 b3 b4 b5 b6 b7 ev wr wg ke ma li ps pn cy ca va cn pp px go ne gi gn) sz)) (q_Mo_give D cI cL b0 b1 b2 b3 b4 b5 b6 b7 (va_A (W_Mo cI cL b0 b1 b2 b3 b4 b5 b6 b7 ev wr wg ke ma li ps pn cy ca va cn pp px go ne gi gn) sz) ev wr wg ke ma li ps pn cy ca va cn pp px go ne gi gn (f_Mo_give gi gn v)) 0 0 (va_A (W_Mo cI cL b0 b1 b2 b3 b4 b5 b6 b7 ev wr wg ke ma li ps pn cy ca va cn pp px go ne gi gn) sz) := by
  refine mk_met (Qf := fun A => q_Mo_give D cI cL b0 b1 b2 b3 b4 b5 b6 b7 A ev wr wg ke ma li ps pn cy ca va cn pp px go ne gi gn (f_Mo_give gi gn v)) (by decide) (Nat.le_of_ble_eq_true rfl) ?_
  intro p e s m below meth c A ls hx hb hr hlocks hml hown hg hK hN hT hA hP hD hS hnm hl
  refine lv_aload_n hx hb d_Mo_give_0 rfl (lv_at hl 0 rfl) ?_
  refine lv_iconst (v := 1) hx hb d_Mo_give_1 (by decide) ?_
  refine va_put (ci := 5) (ty := .boolean) (C := R_Mo) (T := F_Mo) (N := 18) hx hb hg in_Mo t_Mo t_Mo_ok n_Mo hown hK hP hD hS 0 rfl rfl 16 (by decide) (hg _ m_519) (fun _ h => h) rfl (by decide +kernel) rfl rfl (Nat.le_of_ble_eq_true rfl) d_Mo_give_2 (fun H locs hP hD hS => ?_)
  have hP : va_P D classes (W_Mo cI cL b0 b1 b2 b3 b4 b5 b6 b7 ev wr wg ke ma li ps pn cy ca va cn pp px go ne (1 : Int32) gn) H := hP
  have hD : va_D A (W_Mo cI cL b0 b1 b2 b3 b4 b5 b6 b7 ev wr wg ke ma li ps pn cy ca va cn pp px go ne (1 : Int32) gn) := hD
  refine lv_aload_n hx hb d_Mo_give_5 rfl (lv_at hl 0 rfl) ?_
  refine lv_iload_n hx hb d_Mo_give_6 rfl (lv_at hl 1 rfl) ?_
  refine va_put (ci := 5) (ty := .int) (C := R_Mo) (T := F_Mo) (N := 18) hx hb hg in_Mo t_Mo t_Mo_ok n_Mo hown hK hP hD hS 0 rfl rfl 17 (by decide) (hg _ m_520) (fun _ h => h) rfl (by decide +kernel) rfl rfl (Nat.le_of_ble_eq_true rfl) d_Mo_give_7 (fun H locs hP hD hS => ?_)
  have hP : va_P D classes (W_Mo cI cL b0 b1 b2 b3 b4 b5 b6 b7 ev wr wg ke ma li ps pn cy ca va cn pp px go ne (1 : Int32) v) H := hP
  have hD : va_D A (W_Mo cI cL b0 b1 b2 b3 b4 b5 b6 b7 ev wr wg ke ma li ps pn cy ca va cn pp px go ne (1 : Int32) v) := hD
  exact W.vret hx hb hr (fun t ht hW => ⟨⟨(), rfl, trivial, by show va_P D classes _ t.heap; rw [ht]; exact hP⟩, hS.F ht⟩) hS.2.2 d_Mo_give_10 hlocks
abbrev q_Mo_go (D : va_G) (cI cL : ClassId) (b0 b1 b2 b3 b4 b5 b6 b7 : Nat) (A : Nat → Prop) (ev : Int32) (wr : Nat → Int32) (wg : Nat → Int64) (ke : Nat → Int32) (ma : Nat → Int32) (li : Nat → Int64) (ps : Int32) (pn : Nat → Int32) (cy : Int32) (ca : Int32) (va : Int32) (cn : Nat → Int32) (pp : Int32) (px : Int32) (go : Int32) (ne : Int32) (gi : Int32) (gn : Int32) (F : Int32 × Int32 × Int32) : Array Value → State → Outcome → State → Prop := va_Qv (fun (_ : Unit) => True) (fun _ t => va_P D classes (W_Mo cI cL b0 b1 b2 b3 b4 b5 b6 b7 ev wr wg ke ma li ps pn cy F.1 F.2.1 cn pp px go F.2.2 gi gn) t.heap) A
set_option maxHeartbeats 4000000 in
set_option maxRecDepth 100000 in
theorem c_Mo_go (l : Launch) (D : va_G) (cI cL : ClassId) (b0 b1 b2 b3 b4 b5 b6 b7 : Nat) (sz : Nat) (ev : Int32) (wr : Nat → Int32) (wg : Nat → Int64) (ke : Nat → Int32) (ma : Nat → Int32) (li : Nat → Int64) (ps : Int32) (pn : Nat → Int32) (cy : Int32) (ca : Int32) (va : Int32) (cn : Nat → Int32) (pp : Int32) (px : Int32) (go : Int32) (ne : Int32) (gi : Int32) (gn : Int32) (v : Int32)  : Met l y_Mo_go w_Mo_go ({ frames := 1, cells := 0, slots := 0, locals := 22 }) (va_Pc [.ref b0, .int v] (PW D cI cL (W_Mo cI cL b0 b1 b2 b3 b4 b5 b6 b7 ev wr wg ke ma li ps pn cy ca va cn pp px go ne gi gn) sz)) (q_Mo_go D cI cL b0 b1 b2 b3 b4 b5 b6 b7 (va_A (W_Mo cI cL b0 b1 b2 b3 b4 b5 b6 b7 ev wr wg ke ma li ps pn cy ca va cn pp px go ne gi gn) sz) ev wr wg ke ma li ps pn cy ca va cn pp px go ne gi gn (f_Mo_go ca va ne v)) 0 0 (va_A (W_Mo cI cL b0 b1 b2 b3 b4 b5 b6 b7 ev wr wg ke ma li ps pn cy ca va cn pp px go ne gi gn) sz) := by
  refine mk_met (Qf := fun A => q_Mo_go D cI cL b0 b1 b2 b3 b4 b5 b6 b7 A ev wr wg ke ma li ps pn cy ca va cn pp px go ne gi gn (f_Mo_go ca va ne v)) (by decide) (Nat.le_of_ble_eq_true rfl) ?_
  intro p e s m below meth c A ls hx hb hr hlocks hml hown hg hK hN hT hA hP hD hS hnm hl
  refine lv_iload_n hx hb d_Mo_go_0 rfl (lv_at hl 1 rfl) ?_
  refine lv_iconst (v := 3) hx hb d_Mo_go_1 (by decide) ?_
  refine lv_iand hx hb d_Mo_go_2 ?_
  refine lv_if_eq (tgt := 12) hx hb d_Mo_go_3 (by decide) (fun h3 => ?_) (fun h3 => ?_)
  · refine lv_aload_n hx hb d_Mo_go_12 rfl (lv_at hl 0 rfl) ?_
    refine lv_iload_n hx hb d_Mo_go_13 rfl (lv_at hl 1 rfl) ?_
    refine va_put (ci := 5) (ty := .int) (C := R_Mo) (T := F_Mo) (N := 18) hx hb hg in_Mo t_Mo t_Mo_ok n_Mo hown hK hP hD hS 0 rfl rfl 15 (by decide) (hg _ m_518) (fun _ h => h) rfl (by decide +kernel) rfl rfl (Nat.le_of_ble_eq_true rfl) d_Mo_go_14 (fun H locs hP hD hS => ?_)
    have hP : va_P D classes (W_Mo cI cL b0 b1 b2 b3 b4 b5 b6 b7 ev wr wg ke ma li ps pn cy ca va cn pp px go v gi gn) H := hP
    have hD : va_D A (W_Mo cI cL b0 b1 b2 b3 b4 b5 b6 b7 ev wr wg ke ma li ps pn cy ca va cn pp px go v gi gn) := hD
    have hF : f_Mo_go ca va ne v = _ := (if_pos h3)
    rw [hF]
    exact W.vret hx hb hr (fun t ht hW => ⟨⟨(), rfl, trivial, by show va_P D classes _ t.heap; rw [ht]; exact hP⟩, hS.F ht⟩) hS.2.2 d_Mo_go_17 hlocks
  · refine lv_aload_n hx hb d_Mo_go_6 rfl (lv_at hl 0 rfl) ?_
    refine lv_iconst (v := 1) hx hb d_Mo_go_7 (by decide) ?_
    refine lv_iload_n hx hb d_Mo_go_8 rfl (lv_at hl 1 rfl) ?_
    refine cj_v (wc := (W_Mo cI cL b0 b1 b2 b3 b4 b5 b6 b7 ev wr wg ke ma li ps pn cy ca va cn pp px go ne gi gn)) (w1 := (W_Mo cI cL b0 b1 b2 b3 b4 b5 b6 b7 ev wr wg ke ma li ps pn cy ((f_Mo_stop ca va (1 : Int32) v).1) ((f_Mo_stop ca va (1 : Int32) v).2) cn pp px go ne gi gn)) hP hD hS hA [0, 1, 2, 3, 4, 5, 6, 7] rfl rfl (va_runV (rest := []) ⟨hx, hb, hml, hown, hg⟩ (c_Mo_stop l D cI cL b0 b1 b2 b3 b4 b5 b6 b7 _ ev wr wg ke ma li ps pn cy ca va cn pp px go ne gi gn (1 : Int32) v) ⟨callB_of 2 hg (gw_good m_595) rfl rfl rfl (hg _ m_71) (hg _ m_592) hd_Mo_stop ⟨Nat.le_of_ble_eq_true rfl, Nat.le_of_ble_eq_true rfl⟩, hg _ m_594, hg _ m_40⟩ (pw_V hK hN hT hA hP hD hS [0, 1, 2, 3, 4, 5, 6, 7] rfl (by decide) (q0 := 0) (ci := 5) rfl rfl) rfl rfl hl.1 rfl (lv_room (Nat.le_of_ble_eq_true rfl)) d_Mo_go_9 ⟨Nat.le_of_ble_eq_true rfl, Nat.le_of_ble_eq_true rfl⟩) (fun H locs hP hD hS => ?_)
    have hP : va_P D classes (W_Mo cI cL b0 b1 b2 b3 b4 b5 b6 b7 ev wr wg ke ma li ps pn cy ((f_Mo_stop ca va (1 : Int32) v).1) ((f_Mo_stop ca va (1 : Int32) v).2) cn pp px go ne gi gn) H := hP
    have hD : va_D A (W_Mo cI cL b0 b1 b2 b3 b4 b5 b6 b7 ev wr wg ke ma li ps pn cy ((f_Mo_stop ca va (1 : Int32) v).1) ((f_Mo_stop ca va (1 : Int32) v).2) cn pp px go ne gi gn) := hD
    refine lv_aload_n hx hb d_Mo_go_12 rfl (lv_at hl 0 rfl) ?_
    refine lv_iload_n hx hb d_Mo_go_13 rfl (lv_at hl 1 rfl) ?_
    refine va_put (ci := 5) (ty := .int) (C := R_Mo) (T := F_Mo) (N := 18) hx hb hg in_Mo t_Mo t_Mo_ok n_Mo hown hK hP hD hS 0 rfl rfl 15 (by decide) (hg _ m_518) (fun _ h => h) rfl (by decide +kernel) rfl rfl (Nat.le_of_ble_eq_true rfl) d_Mo_go_14 (fun H locs hP hD hS => ?_)
    have hP : va_P D classes (W_Mo cI cL b0 b1 b2 b3 b4 b5 b6 b7 ev wr wg ke ma li ps pn cy ((f_Mo_stop ca va (1 : Int32) v).1) ((f_Mo_stop ca va (1 : Int32) v).2) cn pp px go v gi gn) H := hP
    have hD : va_D A (W_Mo cI cL b0 b1 b2 b3 b4 b5 b6 b7 ev wr wg ke ma li ps pn cy ((f_Mo_stop ca va (1 : Int32) v).1) ((f_Mo_stop ca va (1 : Int32) v).2) cn pp px go v gi gn) := hD
    have hF : f_Mo_go ca va ne v = _ := (if_neg h3)
    rw [hF]
    exact W.vret hx hb hr (fun t ht hW => ⟨⟨(), rfl, trivial, by show va_P D classes _ t.heap; rw [ht]; exact hP⟩, hS.F ht⟩) hS.2.2 d_Mo_go_17 hlocks
abbrev q_Mo_illegal (D : va_G) (cI cL : ClassId) (b0 b1 b2 b3 b4 b5 b6 b7 : Nat) (A : Nat → Prop) (ev : Int32) (wr : Nat → Int32) (wg : Nat → Int64) (ke : Nat → Int32) (ma : Nat → Int32) (li : Nat → Int64) (ps : Int32) (pn : Nat → Int32) (cy : Int32) (ca : Int32) (va : Int32) (cn : Nat → Int32) (pp : Int32) (px : Int32) (go : Int32) (ne : Int32) (gi : Int32) (gn : Int32) (F : Int32 × Int32) : Array Value → State → Outcome → State → Prop := va_Qv (fun (_ : Unit) => True) (fun _ t => va_P D classes (W_Mo cI cL b0 b1 b2 b3 b4 b5 b6 b7 ev wr wg ke ma li ps pn cy F.1 F.2 cn pp px go ne gi gn) t.heap) A
set_option maxHeartbeats 4000000 in
set_option maxRecDepth 100000 in
theorem c_Mo_illegal (l : Launch) (D : va_G) (cI cL : ClassId) (b0 b1 b2 b3 b4 b5 b6 b7 : Nat) (sz : Nat) (ev : Int32) (wr : Nat → Int32) (wg : Nat → Int64) (ke : Nat → Int32) (ma : Nat → Int32) (li : Nat → Int64) (ps : Int32) (pn : Nat → Int32) (cy : Int32) (ca : Int32) (va : Int32) (cn : Nat → Int32) (pp : Int32) (px : Int32) (go : Int32) (ne : Int32) (gi : Int32) (gn : Int32)   : Met l y_Mo_illegal w_Mo_illegal ({ frames := 1, cells := 0, slots := 0, locals := 22 }) (va_Pc [.ref b0] (PW D cI cL (W_Mo cI cL b0 b1 b2 b3 b4 b5 b6 b7 ev wr wg ke ma li ps pn cy ca va cn pp px go ne gi gn) sz)) (q_Mo_illegal D cI cL b0 b1 b2 b3 b4 b5 b6 b7 (va_A (W_Mo cI cL b0 b1 b2 b3 b4 b5 b6 b7 ev wr wg ke ma li ps pn cy ca va cn pp px go ne gi gn) sz) ev wr wg ke ma li ps pn cy ca va cn pp px go ne gi gn (f_Mo_illegal ca va px)) 0 0 (va_A (W_Mo cI cL b0 b1 b2 b3 b4 b5 b6 b7 ev wr wg ke ma li ps pn cy ca va cn pp px go ne gi gn) sz) := by
  refine mk_met (Qf := fun A => q_Mo_illegal D cI cL b0 b1 b2 b3 b4 b5 b6 b7 A ev wr wg ke ma li ps pn cy ca va cn pp px go ne gi gn (f_Mo_illegal ca va px)) (by decide) (Nat.le_of_ble_eq_true rfl) ?_
  intro p e s m below meth c A ls hx hb hr hlocks hml hown hg hK hN hT hA hP hD hS hnm hl
  refine lv_aload_n hx hb d_Mo_illegal_0 rfl (lv_at hl 0 rfl) ?_
  refine lv_iconst (v := 2) hx hb d_Mo_illegal_1 (by decide) ?_
  refine lv_aload_n hx hb d_Mo_illegal_2 rfl (lv_at hl 0 rfl) ?_
  refine va_get (ci := 5) (C := R_Mo) (T := F_Mo) (N := 18) hx hb hg in_Mo hown hK hP 0 rfl rfl 13 (by decide) (hg _ m_516) (fun _ h => h) rfl d_Mo_illegal_3 ?_
  refine cj_v (wc := (W_Mo cI cL b0 b1 b2 b3 b4 b5 b6 b7 ev wr wg ke ma li ps pn cy ca va cn pp px go ne gi gn)) (w1 := (W_Mo cI cL b0 b1 b2 b3 b4 b5 b6 b7 ev wr wg ke ma li ps pn cy ((f_Mo_stop ca va (2 : Int32) px).1) ((f_Mo_stop ca va (2 : Int32) px).2) cn pp px go ne gi gn)) hP hD hS hA [0, 1, 2, 3, 4, 5, 6, 7] rfl rfl (va_runV (rest := []) ⟨hx, hb, hml, hown, hg⟩ (c_Mo_stop l D cI cL b0 b1 b2 b3 b4 b5 b6 b7 _ ev wr wg ke ma li ps pn cy ca va cn pp px go ne gi gn (2 : Int32) px) ⟨callB_of 2 hg (gw_good m_595) rfl rfl rfl (hg _ m_71) (hg _ m_592) hd_Mo_stop ⟨Nat.le_of_ble_eq_true rfl, Nat.le_of_ble_eq_true rfl⟩, hg _ m_594, hg _ m_40⟩ (pw_V hK hN hT hA hP hD hS [0, 1, 2, 3, 4, 5, 6, 7] rfl (by decide) (q0 := 0) (ci := 5) rfl rfl) rfl rfl hl.1 rfl (lv_room (Nat.le_of_ble_eq_true rfl)) d_Mo_illegal_6 ⟨Nat.le_of_ble_eq_true rfl, Nat.le_of_ble_eq_true rfl⟩) (fun H locs hP hD hS => ?_)
  have hP : va_P D classes (W_Mo cI cL b0 b1 b2 b3 b4 b5 b6 b7 ev wr wg ke ma li ps pn cy ((f_Mo_stop ca va (2 : Int32) px).1) ((f_Mo_stop ca va (2 : Int32) px).2) cn pp px go ne gi gn) H := hP
  have hD : va_D A (W_Mo cI cL b0 b1 b2 b3 b4 b5 b6 b7 ev wr wg ke ma li ps pn cy ((f_Mo_stop ca va (2 : Int32) px).1) ((f_Mo_stop ca va (2 : Int32) px).2) cn pp px go ne gi gn) := hD
  exact W.vret hx hb hr (fun t ht hW => ⟨⟨(), rfl, trivial, by show va_P D classes _ t.heap; rw [ht]; exact hP⟩, hS.F ht⟩) hS.2.2 d_Mo_illegal_9 hlocks
abbrev q_Mo_isLess (D : va_G) (cI cL : ClassId) (A : Nat → Prop)  (F : Int32) : Array Value → State → Outcome → State → Prop := va_Qi (fun r (_ : Unit) => r = F) (fun _ t => va_P D classes [] t.heap) A
set_option maxHeartbeats 4000000 in
set_option maxRecDepth 100000 in
theorem c_Mo_isLess (l : Launch) (D : va_G) (cI cL : ClassId) (sz : Nat)  (a : Int32) (b : Int32) (o : Int32)  : Met l y_Mo_isLess w_Mo_isLess ({ frames := 0, cells := 0, slots := 0, locals := 0 }) (va_Pc [.int a, .int b, .int o] (PW D cI cL [] sz)) (q_Mo_isLess D cI cL (va_A [] sz)  (f_Mo_isLess a b o)) 0 0 (va_A [] sz) := by
  refine mk_met (Qf := fun A => q_Mo_isLess D cI cL A  (f_Mo_isLess a b o)) (by decide) (Nat.le_of_ble_eq_true rfl) ?_
  intro p e s m below meth c A ls hx hb hr hlocks hml hown hg hK hN hT hA hP hD hS hnm hl
  refine lv_iload_n hx hb d_Mo_isLess_0 rfl (lv_at hl 2 rfl) ?_
  refine lv_if_eq (tgt := 17) hx hb d_Mo_isLess_1 (by decide) (fun h1 => ?_) (fun h1 => ?_)
  · refine lv_iload_n hx hb d_Mo_isLess_17 rfl (lv_at hl 0 rfl) ?_
    refine lv_iload_n hx hb d_Mo_isLess_18 rfl (lv_at hl 1 rfl) ?_
    refine lv_icmp_ge (tgt := 26) hx hb d_Mo_isLess_19 (by decide) (fun h19 => ?_) (fun h19 => ?_)
    · refine lv_iconst (v := 0) hx hb d_Mo_isLess_26 (by decide) ?_
      refine lv_iload_n hx hb d_Mo_isLess_27 rfl (lv_at hl 0 rfl) ?_
      refine lv_if_ge (tgt := 35) hx hb d_Mo_isLess_28 (by decide) (fun h28 => ?_) (fun h28 => ?_)
      · refine lv_iconst (v := 0) hx hb d_Mo_isLess_35 (by decide) ?_
        refine lv_iload_n hx hb d_Mo_isLess_36 rfl (lv_at hl 1 rfl) ?_
        refine lv_if_ge (tgt := 44) hx hb d_Mo_isLess_37 (by decide) (fun h37 => ?_) (fun h37 => ?_)
        · refine lv_iconst (v := 0) hx hb d_Mo_isLess_44 (by decide) ?_
          refine lv_icmp_eq (tgt := 52) hx hb d_Mo_isLess_45 (by decide) (fun _ => ?_) (fun h => absurd (by decide) h)
          refine lv_iconst (v := 0) hx hb d_Mo_isLess_52 (by decide) ?_
          refine lv_icmp_eq (tgt := 60) hx hb d_Mo_isLess_53 (by decide) (fun _ => ?_) (fun h => absurd (by decide) h)
          refine lv_iconst (v := 0) hx hb d_Mo_isLess_60 (by decide) ?_
          have hF : f_Mo_isLess a b o = _ := ((if_pos h1).trans ((if_pos h19).trans ((if_pos h28).trans (if_pos h37))))
          rw [hF]
          exact W.zret hx hb hr rfl (fun t ht hW => ⟨⟨_, (), rfl, rfl, by show va_P D classes _ t.heap; rw [ht]; exact hP⟩, hS.F ht⟩) hS.2.2 d_Mo_isLess_61 hlocks
        · refine lv_iconst (v := 1) hx hb d_Mo_isLess_40 (by decide) ?_
          refine lv_goto (tgt := 45) hx hb d_Mo_isLess_41 (by decide) ?_
          refine lv_icmp_eq (tgt := 52) hx hb d_Mo_isLess_45 (by decide) (fun h => absurd h (by decide)) (fun _ => ?_)
          refine lv_iconst (v := 1) hx hb d_Mo_isLess_48 (by decide) ?_
          refine lv_goto (tgt := 53) hx hb d_Mo_isLess_49 (by decide) ?_
          refine lv_icmp_eq (tgt := 60) hx hb d_Mo_isLess_53 (by decide) (fun h => absurd h (by decide)) (fun _ => ?_)
          refine lv_iconst (v := 1) hx hb d_Mo_isLess_56 (by decide) ?_
          refine lv_goto (tgt := 61) hx hb d_Mo_isLess_57 (by decide) ?_
          have hF : f_Mo_isLess a b o = _ := ((if_pos h1).trans ((if_pos h19).trans ((if_pos h28).trans (if_neg h37))))
          rw [hF]
          exact W.zret hx hb hr rfl (fun t ht hW => ⟨⟨_, (), rfl, rfl, by show va_P D classes _ t.heap; rw [ht]; exact hP⟩, hS.F ht⟩) hS.2.2 d_Mo_isLess_61 hlocks
      · refine lv_iconst (v := 1) hx hb d_Mo_isLess_31 (by decide) ?_
        refine lv_goto (tgt := 36) hx hb d_Mo_isLess_32 (by decide) ?_
        refine lv_iload_n hx hb d_Mo_isLess_36 rfl (lv_at hl 1 rfl) ?_
        refine lv_if_ge (tgt := 44) hx hb d_Mo_isLess_37 (by decide) (fun h37 => ?_) (fun h37 => ?_)
        · refine lv_iconst (v := 0) hx hb d_Mo_isLess_44 (by decide) ?_
          refine lv_icmp_eq (tgt := 52) hx hb d_Mo_isLess_45 (by decide) (fun h => absurd h (by decide)) (fun _ => ?_)
          refine lv_iconst (v := 1) hx hb d_Mo_isLess_48 (by decide) ?_
          refine lv_goto (tgt := 53) hx hb d_Mo_isLess_49 (by decide) ?_
          refine lv_icmp_eq (tgt := 60) hx hb d_Mo_isLess_53 (by decide) (fun h => absurd h (by decide)) (fun _ => ?_)
          refine lv_iconst (v := 1) hx hb d_Mo_isLess_56 (by decide) ?_
          refine lv_goto (tgt := 61) hx hb d_Mo_isLess_57 (by decide) ?_
          have hF : f_Mo_isLess a b o = _ := ((if_pos h1).trans ((if_pos h19).trans ((if_neg h28).trans (if_pos h37))))
          rw [hF]
          exact W.zret hx hb hr rfl (fun t ht hW => ⟨⟨_, (), rfl, rfl, by show va_P D classes _ t.heap; rw [ht]; exact hP⟩, hS.F ht⟩) hS.2.2 d_Mo_isLess_61 hlocks
        · refine lv_iconst (v := 1) hx hb d_Mo_isLess_40 (by decide) ?_
          refine lv_goto (tgt := 45) hx hb d_Mo_isLess_41 (by decide) ?_
          refine lv_icmp_eq (tgt := 52) hx hb d_Mo_isLess_45 (by decide) (fun _ => ?_) (fun h => absurd (by decide) h)
          refine lv_iconst (v := 0) hx hb d_Mo_isLess_52 (by decide) ?_
          refine lv_icmp_eq (tgt := 60) hx hb d_Mo_isLess_53 (by decide) (fun _ => ?_) (fun h => absurd (by decide) h)
          refine lv_iconst (v := 0) hx hb d_Mo_isLess_60 (by decide) ?_
          have hF : f_Mo_isLess a b o = _ := ((if_pos h1).trans ((if_pos h19).trans ((if_neg h28).trans (if_neg h37))))
          rw [hF]
          exact W.zret hx hb hr rfl (fun t ht hW => ⟨⟨_, (), rfl, rfl, by show va_P D classes _ t.heap; rw [ht]; exact hP⟩, hS.F ht⟩) hS.2.2 d_Mo_isLess_61 hlocks
    · refine lv_iconst (v := 1) hx hb d_Mo_isLess_22 (by decide) ?_
      refine lv_goto (tgt := 27) hx hb d_Mo_isLess_23 (by decide) ?_
      refine lv_iload_n hx hb d_Mo_isLess_27 rfl (lv_at hl 0 rfl) ?_
      refine lv_if_ge (tgt := 35) hx hb d_Mo_isLess_28 (by decide) (fun h28 => ?_) (fun h28 => ?_)
      · refine lv_iconst (v := 0) hx hb d_Mo_isLess_35 (by decide) ?_
        refine lv_iload_n hx hb d_Mo_isLess_36 rfl (lv_at hl 1 rfl) ?_
        refine lv_if_ge (tgt := 44) hx hb d_Mo_isLess_37 (by decide) (fun h37 => ?_) (fun h37 => ?_)
        · refine lv_iconst (v := 0) hx hb d_Mo_isLess_44 (by decide) ?_
          refine lv_icmp_eq (tgt := 52) hx hb d_Mo_isLess_45 (by decide) (fun _ => ?_) (fun h => absurd (by decide) h)
          refine lv_iconst (v := 0) hx hb d_Mo_isLess_52 (by decide) ?_
          refine lv_icmp_eq (tgt := 60) hx hb d_Mo_isLess_53 (by decide) (fun h => absurd h (by decide)) (fun _ => ?_)
          refine lv_iconst (v := 1) hx hb d_Mo_isLess_56 (by decide) ?_
          refine lv_goto (tgt := 61) hx hb d_Mo_isLess_57 (by decide) ?_
          have hF : f_Mo_isLess a b o = _ := ((if_pos h1).trans ((if_neg h19).trans ((if_pos h28).trans (if_pos h37))))
          rw [hF]
          exact W.zret hx hb hr rfl (fun t ht hW => ⟨⟨_, (), rfl, rfl, by show va_P D classes _ t.heap; rw [ht]; exact hP⟩, hS.F ht⟩) hS.2.2 d_Mo_isLess_61 hlocks
        · refine lv_iconst (v := 1) hx hb d_Mo_isLess_40 (by decide) ?_
          refine lv_goto (tgt := 45) hx hb d_Mo_isLess_41 (by decide) ?_
          refine lv_icmp_eq (tgt := 52) hx hb d_Mo_isLess_45 (by decide) (fun h => absurd h (by decide)) (fun _ => ?_)
          refine lv_iconst (v := 1) hx hb d_Mo_isLess_48 (by decide) ?_
          refine lv_goto (tgt := 53) hx hb d_Mo_isLess_49 (by decide) ?_
          refine lv_icmp_eq (tgt := 60) hx hb d_Mo_isLess_53 (by decide) (fun _ => ?_) (fun h => absurd (by decide) h)
          refine lv_iconst (v := 0) hx hb d_Mo_isLess_60 (by decide) ?_
          have hF : f_Mo_isLess a b o = _ := ((if_pos h1).trans ((if_neg h19).trans ((if_pos h28).trans (if_neg h37))))
          rw [hF]
          exact W.zret hx hb hr rfl (fun t ht hW => ⟨⟨_, (), rfl, rfl, by show va_P D classes _ t.heap; rw [ht]; exact hP⟩, hS.F ht⟩) hS.2.2 d_Mo_isLess_61 hlocks
      · refine lv_iconst (v := 1) hx hb d_Mo_isLess_31 (by decide) ?_
        refine lv_goto (tgt := 36) hx hb d_Mo_isLess_32 (by decide) ?_
        refine lv_iload_n hx hb d_Mo_isLess_36 rfl (lv_at hl 1 rfl) ?_
        refine lv_if_ge (tgt := 44) hx hb d_Mo_isLess_37 (by decide) (fun h37 => ?_) (fun h37 => ?_)
        · refine lv_iconst (v := 0) hx hb d_Mo_isLess_44 (by decide) ?_
          refine lv_icmp_eq (tgt := 52) hx hb d_Mo_isLess_45 (by decide) (fun h => absurd h (by decide)) (fun _ => ?_)
          refine lv_iconst (v := 1) hx hb d_Mo_isLess_48 (by decide) ?_
          refine lv_goto (tgt := 53) hx hb d_Mo_isLess_49 (by decide) ?_
          refine lv_icmp_eq (tgt := 60) hx hb d_Mo_isLess_53 (by decide) (fun _ => ?_) (fun h => absurd (by decide) h)
          refine lv_iconst (v := 0) hx hb d_Mo_isLess_60 (by decide) ?_
          have hF : f_Mo_isLess a b o = _ := ((if_pos h1).trans ((if_neg h19).trans ((if_neg h28).trans (if_pos h37))))
          rw [hF]
          exact W.zret hx hb hr rfl (fun t ht hW => ⟨⟨_, (), rfl, rfl, by show va_P D classes _ t.heap; rw [ht]; exact hP⟩, hS.F ht⟩) hS.2.2 d_Mo_isLess_61 hlocks
        · refine lv_iconst (v := 1) hx hb d_Mo_isLess_40 (by decide) ?_
          refine lv_goto (tgt := 45) hx hb d_Mo_isLess_41 (by decide) ?_
          refine lv_icmp_eq (tgt := 52) hx hb d_Mo_isLess_45 (by decide) (fun _ => ?_) (fun h => absurd (by decide) h)
          refine lv_iconst (v := 0) hx hb d_Mo_isLess_52 (by decide) ?_
          refine lv_icmp_eq (tgt := 60) hx hb d_Mo_isLess_53 (by decide) (fun h => absurd h (by decide)) (fun _ => ?_)
          refine lv_iconst (v := 1) hx hb d_Mo_isLess_56 (by decide) ?_
          refine lv_goto (tgt := 61) hx hb d_Mo_isLess_57 (by decide) ?_
          have hF : f_Mo_isLess a b o = _ := ((if_pos h1).trans ((if_neg h19).trans ((if_neg h28).trans (if_neg h37))))
          rw [hF]
          exact W.zret hx hb hr rfl (fun t ht hW => ⟨⟨_, (), rfl, rfl, by show va_P D classes _ t.heap; rw [ht]; exact hP⟩, hS.F ht⟩) hS.2.2 d_Mo_isLess_61 hlocks
  · refine lv_iload_n hx hb d_Mo_isLess_4 rfl (lv_at hl 0 rfl) ?_
    refine lv_iload_n hx hb d_Mo_isLess_5 rfl (lv_at hl 1 rfl) ?_
    refine lv_icmp_ge (tgt := 13) hx hb d_Mo_isLess_6 (by decide) (fun h6 => ?_) (fun h6 => ?_)
    · refine lv_iconst (v := 0) hx hb d_Mo_isLess_13 (by decide) ?_
      refine lv_goto (tgt := 61) hx hb d_Mo_isLess_14 (by decide) ?_
      have hF : f_Mo_isLess a b o = _ := ((if_neg h1).trans (if_pos h6))
      rw [hF]
      exact W.zret hx hb hr rfl (fun t ht hW => ⟨⟨_, (), rfl, rfl, by show va_P D classes _ t.heap; rw [ht]; exact hP⟩, hS.F ht⟩) hS.2.2 d_Mo_isLess_61 hlocks
    · refine lv_iconst (v := 1) hx hb d_Mo_isLess_9 (by decide) ?_
      refine lv_goto (tgt := 61) hx hb d_Mo_isLess_10 (by decide) ?_
      have hF : f_Mo_isLess a b o = _ := ((if_neg h1).trans (if_neg h6))
      rw [hF]
      exact W.zret hx hb hr rfl (fun t ht hW => ⟨⟨_, (), rfl, rfl, by show va_P D classes _ t.heap; rw [ht]; exact hP⟩, hS.F ht⟩) hS.2.2 d_Mo_isLess_61 hlocks
abbrev q_Mo_branch (D : va_G) (cI cL : ClassId) (b0 b1 b2 b3 b4 b5 b6 b7 : Nat) (A : Nat → Prop) (ev : Int32) (wr : Nat → Int32) (wg : Nat → Int64) (ke : Nat → Int32) (ma : Nat → Int32) (li : Nat → Int64) (ps : Int32) (pn : Nat → Int32) (cy : Int32) (ca : Int32) (va : Int32) (cn : Nat → Int32) (pp : Int32) (px : Int32) (go : Int32) (ne : Int32) (gi : Int32) (gn : Int32) (F : Int32 × Int32 × Int32) : Array Value → State → Outcome → State → Prop := va_Qv (fun (_ : Unit) => True) (fun _ t => va_P D classes (W_Mo cI cL b0 b1 b2 b3 b4 b5 b6 b7 ev wr wg ke ma li ps pn cy F.1 F.2.1 cn pp px go F.2.2 gi gn) t.heap) A
set_option maxHeartbeats 4000000 in
set_option maxRecDepth 100000 in
theorem c_Mo_branch (l : Launch) (D : va_G) (cI cL : ClassId) (b0 b1 b2 b3 b4 b5 b6 b7 : Nat) (sz : Nat) (ev : Int32) (wr : Nat → Int32) (wg : Nat → Int64) (ke : Nat → Int32) (ma : Nat → Int32) (li : Nat → Int64) (ps : Int32) (pn : Nat → Int32) (cy : Int32) (ca : Int32) (va : Int32) (cn : Nat → Int32) (pp : Int32) (px : Int32) (go : Int32) (ne : Int32) (gi : Int32) (gn : Int32) (f : Int32) (a : Int32) (b : Int32)  : Met l y_Mo_branch w_Mo_branch ({ frames := 2, cells := 0, slots := 0, locals := 43 }) (va_Pc [.ref b0, .int f, .int a, .int b] (PW D cI cL (W_Mo cI cL b0 b1 b2 b3 b4 b5 b6 b7 ev wr wg ke ma li ps pn cy ca va cn pp px go ne gi gn) sz)) (q_Mo_branch D cI cL b0 b1 b2 b3 b4 b5 b6 b7 (va_A (W_Mo cI cL b0 b1 b2 b3 b4 b5 b6 b7 ev wr wg ke ma li ps pn cy ca va cn pp px go ne gi gn) sz) ev wr wg ke ma li ps pn cy ca va cn pp px go ne gi gn (f_Mo_branch ca va pp px ne f a b)) 0 0 (va_A (W_Mo cI cL b0 b1 b2 b3 b4 b5 b6 b7 ev wr wg ke ma li ps pn cy ca va cn pp px go ne gi gn) sz) := by
  refine mk_met (Qf := fun A => q_Mo_branch D cI cL b0 b1 b2 b3 b4 b5 b6 b7 A ev wr wg ke ma li ps pn cy ca va cn pp px go ne gi gn (f_Mo_branch ca va pp px ne f a b)) (by decide) (Nat.le_of_ble_eq_true rfl) ?_
  intro p e s m below meth c A ls hx hb hr hlocks hml hown hg hK hN hT hA hP hD hS hnm hl
  refine lv_iload_n hx hb d_Mo_branch_0 rfl (lv_at hl 1 rfl) ?_
  refine lv_iconst (v := 2) hx hb d_Mo_branch_1 (by decide) ?_
  refine lv_icmp_ge (tgt := 18) hx hb d_Mo_branch_2 (by decide) (fun h2 => ?_) (fun h2 => ?_)
  · refine lv_iload_n hx hb d_Mo_branch_18 rfl (lv_at hl 2 rfl) ?_
    refine lv_iload_n hx hb d_Mo_branch_19 rfl (lv_at hl 3 rfl) ?_
    refine lv_iload_n hx hb d_Mo_branch_20 rfl (lv_at hl 1 rfl) ?_
    refine lv_bipush (v := 6) hx hb d_Mo_branch_21 (by decide) ?_
    refine lv_icmp_ge (tgt := 30) hx hb d_Mo_branch_23 (by decide) (fun h23 => ?_) (fun h23 => ?_)
    · refine lv_iconst (v := 0) hx hb d_Mo_branch_30 (by decide) ?_
      refine cj_i (wc := []) (w1 := []) hP hD hS hA [] rfl rfl (va_runS (rest := []) ⟨hx, hb, hml, hown, hg⟩ (c_Mo_isLess l D cI cL  _ a b (0 : Int32)) ⟨callB_of 3 hg (gw_good m_668) rfl rfl rfl (hg _ m_71) (hg _ m_666) hd_Mo_isLess ⟨Nat.le_of_ble_eq_true rfl, Nat.le_of_ble_eq_true rfl⟩, hg _ m_667⟩ (pw_S hK hN hT hA hP hD hS [] rfl (by decide)) rfl rfl hl.1 rfl (lv_room (Nat.le_of_ble_eq_true rfl)) d_Mo_branch_31 ⟨Nat.le_of_ble_eq_true rfl, Nat.le_of_ble_eq_true rfl⟩) (fun H locs hP hD hS => ?_)
      have hP : va_P D classes (W_Mo cI cL b0 b1 b2 b3 b4 b5 b6 b7 ev wr wg ke ma li ps pn cy ca va cn pp px go ne gi gn) H := hP
      have hD : va_D A (W_Mo cI cL b0 b1 b2 b3 b4 b5 b6 b7 ev wr wg ke ma li ps pn cy ca va cn pp px go ne gi gn) := hD
      refine lv_istore (lv' := [(4, .int _), (0, .ref _), (1, .int _), (2, .int _), (3, .int _)]) hx hb d_Mo_branch_34 hl (by decide) rfl (fun ls hl => ?_)
      refine lv_iload_n hx hb d_Mo_branch_36 rfl (lv_at hl 2 rfl) ?_
      refine lv_iconst (v := 2) hx hb d_Mo_branch_37 (by decide) ?_
      refine lv_icmp_eq (tgt := 46) hx hb d_Mo_branch_38 (by decide) (fun h38 => ?_) (fun h38 => ?_)
      · refine lv_aload_n hx hb d_Mo_branch_46 rfl (lv_at hl 1 rfl) ?_
        refine cj_v (wc := (W_Mo cI cL b0 b1 b2 b3 b4 b5 b6 b7 ev wr wg ke ma li ps pn cy ca va cn pp px go ne gi gn)) (w1 := (W_Mo cI cL b0 b1 b2 b3 b4 b5 b6 b7 ev wr wg ke ma li ps pn cy ((f_Mo_illegal ca va px).1) ((f_Mo_illegal ca va px).2) cn pp px go ne gi gn)) hP hD hS hA [0, 1, 2, 3, 4, 5, 6, 7] rfl rfl (va_runV (rest := []) ⟨hx, hb, hml, hown, hg⟩ (c_Mo_illegal l D cI cL b0 b1 b2 b3 b4 b5 b6 b7 _ ev wr wg ke ma li ps pn cy ca va cn pp px go ne gi gn) ⟨callB_of 0 hg (gw_good m_661) rfl rfl rfl (hg _ m_71) (hg _ m_658) hd_Mo_illegal ⟨Nat.le_of_ble_eq_true rfl, Nat.le_of_ble_eq_true rfl⟩, hg _ m_660, hg _ m_51⟩ (pw_V hK hN hT hA hP hD hS [0, 1, 2, 3, 4, 5, 6, 7] rfl (by decide) (q0 := 0) (ci := 5) rfl rfl) rfl rfl hl.1 rfl (lv_room (Nat.le_of_ble_eq_true rfl)) d_Mo_branch_47 ⟨Nat.le_of_ble_eq_true rfl, Nat.le_of_ble_eq_true rfl⟩) (fun H locs hP hD hS => ?_)
        have hP : va_P D classes (W_Mo cI cL b0 b1 b2 b3 b4 b5 b6 b7 ev wr wg ke ma li ps pn cy ((f_Mo_illegal ca va px).1) ((f_Mo_illegal ca va px).2) cn pp px go ne gi gn) H := hP
        have hD : va_D A (W_Mo cI cL b0 b1 b2 b3 b4 b5 b6 b7 ev wr wg ke ma li ps pn cy ((f_Mo_illegal ca va px).1) ((f_Mo_illegal ca va px).2) cn pp px go ne gi gn) := hD
        refine lv_goto (tgt := 83) hx hb d_Mo_branch_50 (by decide) ?_
        have hF : f_Mo_branch ca va pp px ne f a b = _ := ((if_pos h2).trans ((if_pos h23).trans (if_pos h38)))
        rw [hF]
        exact W.vret hx hb hr (fun t ht hW => ⟨⟨(), rfl, trivial, by show va_P D classes _ t.heap; rw [ht]; exact hP⟩, hS.F ht⟩) hS.2.2 d_Mo_branch_83 hlocks
      · refine lv_iload_n hx hb d_Mo_branch_41 rfl (lv_at hl 2 rfl) ?_
        refine lv_iconst (v := 3) hx hb d_Mo_branch_42 (by decide) ?_
        refine lv_icmp_ne (tgt := 53) hx hb d_Mo_branch_43 (by decide) (fun h43 => ?_) (fun h43 => ?_)
        · refine lv_iload hx hb d_Mo_branch_53 (lv_at hl 0 rfl) ?_
          refine lv_iload_n hx hb d_Mo_branch_55 rfl (lv_at hl 2 rfl) ?_
          refine lv_iconst (v := 2) hx hb d_Mo_branch_56 (by decide) ?_
          refine lv_irem hx hb d_Mo_branch_57 (by decide) ?_
          refine lv_iconst (v := 1) hx hb d_Mo_branch_58 (by decide) ?_
          refine lv_icmp_ne (tgt := 66) hx hb d_Mo_branch_59 (by decide) (fun h59 => ?_) (fun h59 => ?_)
          · refine lv_iconst (v := 0) hx hb d_Mo_branch_66 (by decide) ?_
            refine lv_icmp_eq (tgt := 83) hx hb d_Mo_branch_67 (by decide) (fun h67 => ?_) (fun h67 => ?_)
            · have hF : f_Mo_branch ca va pp px ne f a b = _ := ((if_pos h2).trans ((if_pos h23).trans ((if_neg h38).trans ((if_neg h43).trans ((if_neg h59).trans (if_pos h67))))))
              rw [hF]
              exact W.vret hx hb hr (fun t ht hW => ⟨⟨(), rfl, trivial, by show va_P D classes _ t.heap; rw [ht]; exact hP⟩, hS.F ht⟩) hS.2.2 d_Mo_branch_83 hlocks
            · refine lv_aload_n hx hb d_Mo_branch_70 rfl (lv_at hl 1 rfl) ?_
              refine lv_aload_n hx hb d_Mo_branch_71 rfl (lv_at hl 1 rfl) ?_
              refine va_get (ci := 5) (C := R_Mo) (T := F_Mo) (N := 18) hx hb hg in_Mo hown hK hP 0 rfl rfl 12 (by decide) (hg _ m_515) (fun _ h => h) rfl d_Mo_branch_72 ?_
              refine lv_aload_n hx hb d_Mo_branch_75 rfl (lv_at hl 1 rfl) ?_
              refine cj_i (wc := (W_Mo cI cL b0 b1 b2 b3 b4 b5 b6 b7 ev wr wg ke ma li ps pn cy ca va cn pp px go ne gi gn)) (w1 := (W_Mo cI cL b0 b1 b2 b3 b4 b5 b6 b7 ev wr wg ke ma li ps pn cy ca va cn pp px go ne gi gn)) hP hD hS hA [0, 1, 2, 3, 4, 5, 6, 7] rfl rfl (va_runV (rest := [.int _, .ref _]) ⟨hx, hb, hml, hown, hg⟩ (c_Mo_numberK l D cI cL b0 b1 b2 b3 b4 b5 b6 b7 _ ev wr wg ke ma li ps pn cy ca va cn pp px go ne gi gn) ⟨callB_of 0 hg (gw_good m_672) rfl rfl rfl (hg _ m_71) (hg _ m_669) hd_Mo_numberK ⟨Nat.le_of_ble_eq_true rfl, Nat.le_of_ble_eq_true rfl⟩, hg _ m_671, hg _ m_53⟩ (pw_V hK hN hT hA hP hD hS [0, 1, 2, 3, 4, 5, 6, 7] rfl (by decide) (q0 := 0) (ci := 5) rfl rfl) rfl rfl hl.1 rfl (lv_room (Nat.le_of_ble_eq_true rfl)) d_Mo_branch_76 ⟨Nat.le_of_ble_eq_true rfl, Nat.le_of_ble_eq_true rfl⟩) (fun H locs hP hD hS => ?_)
              have hP : va_P D classes (W_Mo cI cL b0 b1 b2 b3 b4 b5 b6 b7 ev wr wg ke ma li ps pn cy ca va cn pp px go ne gi gn) H := hP
              have hD : va_D A (W_Mo cI cL b0 b1 b2 b3 b4 b5 b6 b7 ev wr wg ke ma li ps pn cy ca va cn pp px go ne gi gn) := hD
              refine lv_iadd hx hb d_Mo_branch_79 ?_
              refine cj_v (wc := (W_Mo cI cL b0 b1 b2 b3 b4 b5 b6 b7 ev wr wg ke ma li ps pn cy ca va cn pp px go ne gi gn)) (w1 := (W_Mo cI cL b0 b1 b2 b3 b4 b5 b6 b7 ev wr wg ke ma li ps pn cy ((f_Mo_go ca va ne (pp + (f_Mo_numberK px))).1) ((f_Mo_go ca va ne (pp + (f_Mo_numberK px))).2.1) cn pp px go ((f_Mo_go ca va ne (pp + (f_Mo_numberK px))).2.2) gi gn)) hP hD hS hA [0, 1, 2, 3, 4, 5, 6, 7] rfl rfl (va_runV (rest := []) ⟨hx, hb, hml, hown, hg⟩ (c_Mo_go l D cI cL b0 b1 b2 b3 b4 b5 b6 b7 _ ev wr wg ke ma li ps pn cy ca va cn pp px go ne gi gn (pp + (f_Mo_numberK px))) ⟨callB_of 1 hg (gw_good m_653) rfl rfl rfl (hg _ m_71) (hg _ m_650) hd_Mo_go ⟨Nat.le_of_ble_eq_true rfl, Nat.le_of_ble_eq_true rfl⟩, hg _ m_652, hg _ m_49⟩ (pw_V hK hN hT hA hP hD hS [0, 1, 2, 3, 4, 5, 6, 7] rfl (by decide) (q0 := 0) (ci := 5) rfl rfl) rfl rfl hl.1 rfl (lv_room (Nat.le_of_ble_eq_true rfl)) d_Mo_branch_80 ⟨Nat.le_of_ble_eq_true rfl, Nat.le_of_ble_eq_true rfl⟩) (fun H locs hP hD hS => ?_)
              have hP : va_P D classes (W_Mo cI cL b0 b1 b2 b3 b4 b5 b6 b7 ev wr wg ke ma li ps pn cy ((f_Mo_go ca va ne (pp + (f_Mo_numberK px))).1) ((f_Mo_go ca va ne (pp + (f_Mo_numberK px))).2.1) cn pp px go ((f_Mo_go ca va ne (pp + (f_Mo_numberK px))).2.2) gi gn) H := hP
              have hD : va_D A (W_Mo cI cL b0 b1 b2 b3 b4 b5 b6 b7 ev wr wg ke ma li ps pn cy ((f_Mo_go ca va ne (pp + (f_Mo_numberK px))).1) ((f_Mo_go ca va ne (pp + (f_Mo_numberK px))).2.1) cn pp px go ((f_Mo_go ca va ne (pp + (f_Mo_numberK px))).2.2) gi gn) := hD
              have hF : f_Mo_branch ca va pp px ne f a b = _ := ((if_pos h2).trans ((if_pos h23).trans ((if_neg h38).trans ((if_neg h43).trans ((if_neg h59).trans (if_neg h67))))))
              rw [hF]
              exact W.vret hx hb hr (fun t ht hW => ⟨⟨(), rfl, trivial, by show va_P D classes _ t.heap; rw [ht]; exact hP⟩, hS.F ht⟩) hS.2.2 d_Mo_branch_83 hlocks
          · refine lv_iconst (v := 1) hx hb d_Mo_branch_62 (by decide) ?_
            refine lv_goto (tgt := 67) hx hb d_Mo_branch_63 (by decide) ?_
            refine lv_icmp_eq (tgt := 83) hx hb d_Mo_branch_67 (by decide) (fun h67 => ?_) (fun h67 => ?_)
            · have hF : f_Mo_branch ca va pp px ne f a b = _ := ((if_pos h2).trans ((if_pos h23).trans ((if_neg h38).trans ((if_neg h43).trans ((if_pos h59).trans (if_pos h67))))))
              rw [hF]
              exact W.vret hx hb hr (fun t ht hW => ⟨⟨(), rfl, trivial, by show va_P D classes _ t.heap; rw [ht]; exact hP⟩, hS.F ht⟩) hS.2.2 d_Mo_branch_83 hlocks
            · refine lv_aload_n hx hb d_Mo_branch_70 rfl (lv_at hl 1 rfl) ?_
              refine lv_aload_n hx hb d_Mo_branch_71 rfl (lv_at hl 1 rfl) ?_
              refine va_get (ci := 5) (C := R_Mo) (T := F_Mo) (N := 18) hx hb hg in_Mo hown hK hP 0 rfl rfl 12 (by decide) (hg _ m_515) (fun _ h => h) rfl d_Mo_branch_72 ?_
              refine lv_aload_n hx hb d_Mo_branch_75 rfl (lv_at hl 1 rfl) ?_
              refine cj_i (wc := (W_Mo cI cL b0 b1 b2 b3 b4 b5 b6 b7 ev wr wg ke ma li ps pn cy ca va cn pp px go ne gi gn)) (w1 := (W_Mo cI cL b0 b1 b2 b3 b4 b5 b6 b7 ev wr wg ke ma li ps pn cy ca va cn pp px go ne gi gn)) hP hD hS hA [0, 1, 2, 3, 4, 5, 6, 7] rfl rfl (va_runV (rest := [.int _, .ref _]) ⟨hx, hb, hml, hown, hg⟩ (c_Mo_numberK l D cI cL b0 b1 b2 b3 b4 b5 b6 b7 _ ev wr wg ke ma li ps pn cy ca va cn pp px go ne gi gn) ⟨callB_of 0 hg (gw_good m_672) rfl rfl rfl (hg _ m_71) (hg _ m_669) hd_Mo_numberK ⟨Nat.le_of_ble_eq_true rfl, Nat.le_of_ble_eq_true rfl⟩, hg _ m_671, hg _ m_53⟩ (pw_V hK hN hT hA hP hD hS [0, 1, 2, 3, 4, 5, 6, 7] rfl (by decide) (q0 := 0) (ci := 5) rfl rfl) rfl rfl hl.1 rfl (lv_room (Nat.le_of_ble_eq_true rfl)) d_Mo_branch_76 ⟨Nat.le_of_ble_eq_true rfl, Nat.le_of_ble_eq_true rfl⟩) (fun H locs hP hD hS => ?_)
              have hP : va_P D classes (W_Mo cI cL b0 b1 b2 b3 b4 b5 b6 b7 ev wr wg ke ma li ps pn cy ca va cn pp px go ne gi gn) H := hP
              have hD : va_D A (W_Mo cI cL b0 b1 b2 b3 b4 b5 b6 b7 ev wr wg ke ma li ps pn cy ca va cn pp px go ne gi gn) := hD
              refine lv_iadd hx hb d_Mo_branch_79 ?_
              refine cj_v (wc := (W_Mo cI cL b0 b1 b2 b3 b4 b5 b6 b7 ev wr wg ke ma li ps pn cy ca va cn pp px go ne gi gn)) (w1 := (W_Mo cI cL b0 b1 b2 b3 b4 b5 b6 b7 ev wr wg ke ma li ps pn cy ((f_Mo_go ca va ne (pp + (f_Mo_numberK px))).1) ((f_Mo_go ca va ne (pp + (f_Mo_numberK px))).2.1) cn pp px go ((f_Mo_go ca va ne (pp + (f_Mo_numberK px))).2.2) gi gn)) hP hD hS hA [0, 1, 2, 3, 4, 5, 6, 7] rfl rfl (va_runV (rest := []) ⟨hx, hb, hml, hown, hg⟩ (c_Mo_go l D cI cL b0 b1 b2 b3 b4 b5 b6 b7 _ ev wr wg ke ma li ps pn cy ca va cn pp px go ne gi gn (pp + (f_Mo_numberK px))) ⟨callB_of 1 hg (gw_good m_653) rfl rfl rfl (hg _ m_71) (hg _ m_650) hd_Mo_go ⟨Nat.le_of_ble_eq_true rfl, Nat.le_of_ble_eq_true rfl⟩, hg _ m_652, hg _ m_49⟩ (pw_V hK hN hT hA hP hD hS [0, 1, 2, 3, 4, 5, 6, 7] rfl (by decide) (q0 := 0) (ci := 5) rfl rfl) rfl rfl hl.1 rfl (lv_room (Nat.le_of_ble_eq_true rfl)) d_Mo_branch_80 ⟨Nat.le_of_ble_eq_true rfl, Nat.le_of_ble_eq_true rfl⟩) (fun H locs hP hD hS => ?_)
              have hP : va_P D classes (W_Mo cI cL b0 b1 b2 b3 b4 b5 b6 b7 ev wr wg ke ma li ps pn cy ((f_Mo_go ca va ne (pp + (f_Mo_numberK px))).1) ((f_Mo_go ca va ne (pp + (f_Mo_numberK px))).2.1) cn pp px go ((f_Mo_go ca va ne (pp + (f_Mo_numberK px))).2.2) gi gn) H := hP
              have hD : va_D A (W_Mo cI cL b0 b1 b2 b3 b4 b5 b6 b7 ev wr wg ke ma li ps pn cy ((f_Mo_go ca va ne (pp + (f_Mo_numberK px))).1) ((f_Mo_go ca va ne (pp + (f_Mo_numberK px))).2.1) cn pp px go ((f_Mo_go ca va ne (pp + (f_Mo_numberK px))).2.2) gi gn) := hD
              have hF : f_Mo_branch ca va pp px ne f a b = _ := ((if_pos h2).trans ((if_pos h23).trans ((if_neg h38).trans ((if_neg h43).trans ((if_pos h59).trans (if_neg h67))))))
              rw [hF]
              exact W.vret hx hb hr (fun t ht hW => ⟨⟨(), rfl, trivial, by show va_P D classes _ t.heap; rw [ht]; exact hP⟩, hS.F ht⟩) hS.2.2 d_Mo_branch_83 hlocks
        · refine lv_aload_n hx hb d_Mo_branch_46 rfl (lv_at hl 1 rfl) ?_
          refine cj_v (wc := (W_Mo cI cL b0 b1 b2 b3 b4 b5 b6 b7 ev wr wg ke ma li ps pn cy ca va cn pp px go ne gi gn)) (w1 := (W_Mo cI cL b0 b1 b2 b3 b4 b5 b6 b7 ev wr wg ke ma li ps pn cy ((f_Mo_illegal ca va px).1) ((f_Mo_illegal ca va px).2) cn pp px go ne gi gn)) hP hD hS hA [0, 1, 2, 3, 4, 5, 6, 7] rfl rfl (va_runV (rest := []) ⟨hx, hb, hml, hown, hg⟩ (c_Mo_illegal l D cI cL b0 b1 b2 b3 b4 b5 b6 b7 _ ev wr wg ke ma li ps pn cy ca va cn pp px go ne gi gn) ⟨callB_of 0 hg (gw_good m_661) rfl rfl rfl (hg _ m_71) (hg _ m_658) hd_Mo_illegal ⟨Nat.le_of_ble_eq_true rfl, Nat.le_of_ble_eq_true rfl⟩, hg _ m_660, hg _ m_51⟩ (pw_V hK hN hT hA hP hD hS [0, 1, 2, 3, 4, 5, 6, 7] rfl (by decide) (q0 := 0) (ci := 5) rfl rfl) rfl rfl hl.1 rfl (lv_room (Nat.le_of_ble_eq_true rfl)) d_Mo_branch_47 ⟨Nat.le_of_ble_eq_true rfl, Nat.le_of_ble_eq_true rfl⟩) (fun H locs hP hD hS => ?_)
          have hP : va_P D classes (W_Mo cI cL b0 b1 b2 b3 b4 b5 b6 b7 ev wr wg ke ma li ps pn cy ((f_Mo_illegal ca va px).1) ((f_Mo_illegal ca va px).2) cn pp px go ne gi gn) H := hP
          have hD : va_D A (W_Mo cI cL b0 b1 b2 b3 b4 b5 b6 b7 ev wr wg ke ma li ps pn cy ((f_Mo_illegal ca va px).1) ((f_Mo_illegal ca va px).2) cn pp px go ne gi gn) := hD
          refine lv_goto (tgt := 83) hx hb d_Mo_branch_50 (by decide) ?_
          have hF : f_Mo_branch ca va pp px ne f a b = _ := ((if_pos h2).trans ((if_pos h23).trans ((if_neg h38).trans (if_pos h43))))
          rw [hF]
          exact W.vret hx hb hr (fun t ht hW => ⟨⟨(), rfl, trivial, by show va_P D classes _ t.heap; rw [ht]; exact hP⟩, hS.F ht⟩) hS.2.2 d_Mo_branch_83 hlocks
    · refine lv_iconst (v := 1) hx hb d_Mo_branch_26 (by decide) ?_
      refine lv_goto (tgt := 31) hx hb d_Mo_branch_27 (by decide) ?_
      refine cj_i (wc := []) (w1 := []) hP hD hS hA [] rfl rfl (va_runS (rest := []) ⟨hx, hb, hml, hown, hg⟩ (c_Mo_isLess l D cI cL  _ a b (1 : Int32)) ⟨callB_of 3 hg (gw_good m_668) rfl rfl rfl (hg _ m_71) (hg _ m_666) hd_Mo_isLess ⟨Nat.le_of_ble_eq_true rfl, Nat.le_of_ble_eq_true rfl⟩, hg _ m_667⟩ (pw_S hK hN hT hA hP hD hS [] rfl (by decide)) rfl rfl hl.1 rfl (lv_room (Nat.le_of_ble_eq_true rfl)) d_Mo_branch_31 ⟨Nat.le_of_ble_eq_true rfl, Nat.le_of_ble_eq_true rfl⟩) (fun H locs hP hD hS => ?_)
      have hP : va_P D classes (W_Mo cI cL b0 b1 b2 b3 b4 b5 b6 b7 ev wr wg ke ma li ps pn cy ca va cn pp px go ne gi gn) H := hP
      have hD : va_D A (W_Mo cI cL b0 b1 b2 b3 b4 b5 b6 b7 ev wr wg ke ma li ps pn cy ca va cn pp px go ne gi gn) := hD
      refine lv_istore (lv' := [(4, .int _), (0, .ref _), (1, .int _), (2, .int _), (3, .int _)]) hx hb d_Mo_branch_34 hl (by decide) rfl (fun ls hl => ?_)
      refine lv_iload_n hx hb d_Mo_branch_36 rfl (lv_at hl 2 rfl) ?_
      refine lv_iconst (v := 2) hx hb d_Mo_branch_37 (by decide) ?_
      refine lv_icmp_eq (tgt := 46) hx hb d_Mo_branch_38 (by decide) (fun h38 => ?_) (fun h38 => ?_)
      · refine lv_aload_n hx hb d_Mo_branch_46 rfl (lv_at hl 1 rfl) ?_
        refine cj_v (wc := (W_Mo cI cL b0 b1 b2 b3 b4 b5 b6 b7 ev wr wg ke ma li ps pn cy ca va cn pp px go ne gi gn)) (w1 := (W_Mo cI cL b0 b1 b2 b3 b4 b5 b6 b7 ev wr wg ke ma li ps pn cy ((f_Mo_illegal ca va px).1) ((f_Mo_illegal ca va px).2) cn pp px go ne gi gn)) hP hD hS hA [0, 1, 2, 3, 4, 5, 6, 7] rfl rfl (va_runV (rest := []) ⟨hx, hb, hml, hown, hg⟩ (c_Mo_illegal l D cI cL b0 b1 b2 b3 b4 b5 b6 b7 _ ev wr wg ke ma li ps pn cy ca va cn pp px go ne gi gn) ⟨callB_of 0 hg (gw_good m_661) rfl rfl rfl (hg _ m_71) (hg _ m_658) hd_Mo_illegal ⟨Nat.le_of_ble_eq_true rfl, Nat.le_of_ble_eq_true rfl⟩, hg _ m_660, hg _ m_51⟩ (pw_V hK hN hT hA hP hD hS [0, 1, 2, 3, 4, 5, 6, 7] rfl (by decide) (q0 := 0) (ci := 5) rfl rfl) rfl rfl hl.1 rfl (lv_room (Nat.le_of_ble_eq_true rfl)) d_Mo_branch_47 ⟨Nat.le_of_ble_eq_true rfl, Nat.le_of_ble_eq_true rfl⟩) (fun H locs hP hD hS => ?_)
        have hP : va_P D classes (W_Mo cI cL b0 b1 b2 b3 b4 b5 b6 b7 ev wr wg ke ma li ps pn cy ((f_Mo_illegal ca va px).1) ((f_Mo_illegal ca va px).2) cn pp px go ne gi gn) H := hP
        have hD : va_D A (W_Mo cI cL b0 b1 b2 b3 b4 b5 b6 b7 ev wr wg ke ma li ps pn cy ((f_Mo_illegal ca va px).1) ((f_Mo_illegal ca va px).2) cn pp px go ne gi gn) := hD
        refine lv_goto (tgt := 83) hx hb d_Mo_branch_50 (by decide) ?_
        have hF : f_Mo_branch ca va pp px ne f a b = _ := ((if_pos h2).trans ((if_neg h23).trans (if_pos h38)))
        rw [hF]
        exact W.vret hx hb hr (fun t ht hW => ⟨⟨(), rfl, trivial, by show va_P D classes _ t.heap; rw [ht]; exact hP⟩, hS.F ht⟩) hS.2.2 d_Mo_branch_83 hlocks
      · refine lv_iload_n hx hb d_Mo_branch_41 rfl (lv_at hl 2 rfl) ?_
        refine lv_iconst (v := 3) hx hb d_Mo_branch_42 (by decide) ?_
        refine lv_icmp_ne (tgt := 53) hx hb d_Mo_branch_43 (by decide) (fun h43 => ?_) (fun h43 => ?_)
        · refine lv_iload hx hb d_Mo_branch_53 (lv_at hl 0 rfl) ?_
          refine lv_iload_n hx hb d_Mo_branch_55 rfl (lv_at hl 2 rfl) ?_
          refine lv_iconst (v := 2) hx hb d_Mo_branch_56 (by decide) ?_
          refine lv_irem hx hb d_Mo_branch_57 (by decide) ?_
          refine lv_iconst (v := 1) hx hb d_Mo_branch_58 (by decide) ?_
          refine lv_icmp_ne (tgt := 66) hx hb d_Mo_branch_59 (by decide) (fun h59 => ?_) (fun h59 => ?_)
          · refine lv_iconst (v := 0) hx hb d_Mo_branch_66 (by decide) ?_
            refine lv_icmp_eq (tgt := 83) hx hb d_Mo_branch_67 (by decide) (fun h67 => ?_) (fun h67 => ?_)
            · have hF : f_Mo_branch ca va pp px ne f a b = _ := ((if_pos h2).trans ((if_neg h23).trans ((if_neg h38).trans ((if_neg h43).trans ((if_neg h59).trans (if_pos h67))))))
              rw [hF]
              exact W.vret hx hb hr (fun t ht hW => ⟨⟨(), rfl, trivial, by show va_P D classes _ t.heap; rw [ht]; exact hP⟩, hS.F ht⟩) hS.2.2 d_Mo_branch_83 hlocks
            · refine lv_aload_n hx hb d_Mo_branch_70 rfl (lv_at hl 1 rfl) ?_
              refine lv_aload_n hx hb d_Mo_branch_71 rfl (lv_at hl 1 rfl) ?_
              refine va_get (ci := 5) (C := R_Mo) (T := F_Mo) (N := 18) hx hb hg in_Mo hown hK hP 0 rfl rfl 12 (by decide) (hg _ m_515) (fun _ h => h) rfl d_Mo_branch_72 ?_
              refine lv_aload_n hx hb d_Mo_branch_75 rfl (lv_at hl 1 rfl) ?_
              refine cj_i (wc := (W_Mo cI cL b0 b1 b2 b3 b4 b5 b6 b7 ev wr wg ke ma li ps pn cy ca va cn pp px go ne gi gn)) (w1 := (W_Mo cI cL b0 b1 b2 b3 b4 b5 b6 b7 ev wr wg ke ma li ps pn cy ca va cn pp px go ne gi gn)) hP hD hS hA [0, 1, 2, 3, 4, 5, 6, 7] rfl rfl (va_runV (rest := [.int _, .ref _]) ⟨hx, hb, hml, hown, hg⟩ (c_Mo_numberK l D cI cL b0 b1 b2 b3 b4 b5 b6 b7 _ ev wr wg ke ma li ps pn cy ca va cn pp px go ne gi gn) ⟨callB_of 0 hg (gw_good m_672) rfl rfl rfl (hg _ m_71) (hg _ m_669) hd_Mo_numberK ⟨Nat.le_of_ble_eq_true rfl, Nat.le_of_ble_eq_true rfl⟩, hg _ m_671, hg _ m_53⟩ (pw_V hK hN hT hA hP hD hS [0, 1, 2, 3, 4, 5, 6, 7] rfl (by decide) (q0 := 0) (ci := 5) rfl rfl) rfl rfl hl.1 rfl (lv_room (Nat.le_of_ble_eq_true rfl)) d_Mo_branch_76 ⟨Nat.le_of_ble_eq_true rfl, Nat.le_of_ble_eq_true rfl⟩) (fun H locs hP hD hS => ?_)
              have hP : va_P D classes (W_Mo cI cL b0 b1 b2 b3 b4 b5 b6 b7 ev wr wg ke ma li ps pn cy ca va cn pp px go ne gi gn) H := hP
              have hD : va_D A (W_Mo cI cL b0 b1 b2 b3 b4 b5 b6 b7 ev wr wg ke ma li ps pn cy ca va cn pp px go ne gi gn) := hD
              refine lv_iadd hx hb d_Mo_branch_79 ?_
              refine cj_v (wc := (W_Mo cI cL b0 b1 b2 b3 b4 b5 b6 b7 ev wr wg ke ma li ps pn cy ca va cn pp px go ne gi gn)) (w1 := (W_Mo cI cL b0 b1 b2 b3 b4 b5 b6 b7 ev wr wg ke ma li ps pn cy ((f_Mo_go ca va ne (pp + (f_Mo_numberK px))).1) ((f_Mo_go ca va ne (pp + (f_Mo_numberK px))).2.1) cn pp px go ((f_Mo_go ca va ne (pp + (f_Mo_numberK px))).2.2) gi gn)) hP hD hS hA [0, 1, 2, 3, 4, 5, 6, 7] rfl rfl (va_runV (rest := []) ⟨hx, hb, hml, hown, hg⟩ (c_Mo_go l D cI cL b0 b1 b2 b3 b4 b5 b6 b7 _ ev wr wg ke ma li ps pn cy ca va cn pp px go ne gi gn (pp + (f_Mo_numberK px))) ⟨callB_of 1 hg (gw_good m_653) rfl rfl rfl (hg _ m_71) (hg _ m_650) hd_Mo_go ⟨Nat.le_of_ble_eq_true rfl, Nat.le_of_ble_eq_true rfl⟩, hg _ m_652, hg _ m_49⟩ (pw_V hK hN hT hA hP hD hS [0, 1, 2, 3, 4, 5, 6, 7] rfl (by decide) (q0 := 0) (ci := 5) rfl rfl) rfl rfl hl.1 rfl (lv_room (Nat.le_of_ble_eq_true rfl)) d_Mo_branch_80 ⟨Nat.le_of_ble_eq_true rfl, Nat.le_of_ble_eq_true rfl⟩) (fun H locs hP hD hS => ?_)
              have hP : va_P D classes (W_Mo cI cL b0 b1 b2 b3 b4 b5 b6 b7 ev wr wg ke ma li ps pn cy ((f_Mo_go ca va ne (pp + (f_Mo_numberK px))).1) ((f_Mo_go ca va ne (pp + (f_Mo_numberK px))).2.1) cn pp px go ((f_Mo_go ca va ne (pp + (f_Mo_numberK px))).2.2) gi gn) H := hP
              have hD : va_D A (W_Mo cI cL b0 b1 b2 b3 b4 b5 b6 b7 ev wr wg ke ma li ps pn cy ((f_Mo_go ca va ne (pp + (f_Mo_numberK px))).1) ((f_Mo_go ca va ne (pp + (f_Mo_numberK px))).2.1) cn pp px go ((f_Mo_go ca va ne (pp + (f_Mo_numberK px))).2.2) gi gn) := hD
              have hF : f_Mo_branch ca va pp px ne f a b = _ := ((if_pos h2).trans ((if_neg h23).trans ((if_neg h38).trans ((if_neg h43).trans ((if_neg h59).trans (if_neg h67))))))
              rw [hF]
              exact W.vret hx hb hr (fun t ht hW => ⟨⟨(), rfl, trivial, by show va_P D classes _ t.heap; rw [ht]; exact hP⟩, hS.F ht⟩) hS.2.2 d_Mo_branch_83 hlocks
          · refine lv_iconst (v := 1) hx hb d_Mo_branch_62 (by decide) ?_
            refine lv_goto (tgt := 67) hx hb d_Mo_branch_63 (by decide) ?_
            refine lv_icmp_eq (tgt := 83) hx hb d_Mo_branch_67 (by decide) (fun h67 => ?_) (fun h67 => ?_)
            · have hF : f_Mo_branch ca va pp px ne f a b = _ := ((if_pos h2).trans ((if_neg h23).trans ((if_neg h38).trans ((if_neg h43).trans ((if_pos h59).trans (if_pos h67))))))
              rw [hF]
              exact W.vret hx hb hr (fun t ht hW => ⟨⟨(), rfl, trivial, by show va_P D classes _ t.heap; rw [ht]; exact hP⟩, hS.F ht⟩) hS.2.2 d_Mo_branch_83 hlocks
            · refine lv_aload_n hx hb d_Mo_branch_70 rfl (lv_at hl 1 rfl) ?_
              refine lv_aload_n hx hb d_Mo_branch_71 rfl (lv_at hl 1 rfl) ?_
              refine va_get (ci := 5) (C := R_Mo) (T := F_Mo) (N := 18) hx hb hg in_Mo hown hK hP 0 rfl rfl 12 (by decide) (hg _ m_515) (fun _ h => h) rfl d_Mo_branch_72 ?_
              refine lv_aload_n hx hb d_Mo_branch_75 rfl (lv_at hl 1 rfl) ?_
              refine cj_i (wc := (W_Mo cI cL b0 b1 b2 b3 b4 b5 b6 b7 ev wr wg ke ma li ps pn cy ca va cn pp px go ne gi gn)) (w1 := (W_Mo cI cL b0 b1 b2 b3 b4 b5 b6 b7 ev wr wg ke ma li ps pn cy ca va cn pp px go ne gi gn)) hP hD hS hA [0, 1, 2, 3, 4, 5, 6, 7] rfl rfl (va_runV (rest := [.int _, .ref _]) ⟨hx, hb, hml, hown, hg⟩ (c_Mo_numberK l D cI cL b0 b1 b2 b3 b4 b5 b6 b7 _ ev wr wg ke ma li ps pn cy ca va cn pp px go ne gi gn) ⟨callB_of 0 hg (gw_good m_672) rfl rfl rfl (hg _ m_71) (hg _ m_669) hd_Mo_numberK ⟨Nat.le_of_ble_eq_true rfl, Nat.le_of_ble_eq_true rfl⟩, hg _ m_671, hg _ m_53⟩ (pw_V hK hN hT hA hP hD hS [0, 1, 2, 3, 4, 5, 6, 7] rfl (by decide) (q0 := 0) (ci := 5) rfl rfl) rfl rfl hl.1 rfl (lv_room (Nat.le_of_ble_eq_true rfl)) d_Mo_branch_76 ⟨Nat.le_of_ble_eq_true rfl, Nat.le_of_ble_eq_true rfl⟩) (fun H locs hP hD hS => ?_)
              have hP : va_P D classes (W_Mo cI cL b0 b1 b2 b3 b4 b5 b6 b7 ev wr wg ke ma li ps pn cy ca va cn pp px go ne gi gn) H := hP
              have hD : va_D A (W_Mo cI cL b0 b1 b2 b3 b4 b5 b6 b7 ev wr wg ke ma li ps pn cy ca va cn pp px go ne gi gn) := hD
              refine lv_iadd hx hb d_Mo_branch_79 ?_
              refine cj_v (wc := (W_Mo cI cL b0 b1 b2 b3 b4 b5 b6 b7 ev wr wg ke ma li ps pn cy ca va cn pp px go ne gi gn)) (w1 := (W_Mo cI cL b0 b1 b2 b3 b4 b5 b6 b7 ev wr wg ke ma li ps pn cy ((f_Mo_go ca va ne (pp + (f_Mo_numberK px))).1) ((f_Mo_go ca va ne (pp + (f_Mo_numberK px))).2.1) cn pp px go ((f_Mo_go ca va ne (pp + (f_Mo_numberK px))).2.2) gi gn)) hP hD hS hA [0, 1, 2, 3, 4, 5, 6, 7] rfl rfl (va_runV (rest := []) ⟨hx, hb, hml, hown, hg⟩ (c_Mo_go l D cI cL b0 b1 b2 b3 b4 b5 b6 b7 _ ev wr wg ke ma li ps pn cy ca va cn pp px go ne gi gn (pp + (f_Mo_numberK px))) ⟨callB_of 1 hg (gw_good m_653) rfl rfl rfl (hg _ m_71) (hg _ m_650) hd_Mo_go ⟨Nat.le_of_ble_eq_true rfl, Nat.le_of_ble_eq_true rfl⟩, hg _ m_652, hg _ m_49⟩ (pw_V hK hN hT hA hP hD hS [0, 1, 2, 3, 4, 5, 6, 7] rfl (by decide) (q0 := 0) (ci := 5) rfl rfl) rfl rfl hl.1 rfl (lv_room (Nat.le_of_ble_eq_true rfl)) d_Mo_branch_80 ⟨Nat.le_of_ble_eq_true rfl, Nat.le_of_ble_eq_true rfl⟩) (fun H locs hP hD hS => ?_)
              have hP : va_P D classes (W_Mo cI cL b0 b1 b2 b3 b4 b5 b6 b7 ev wr wg ke ma li ps pn cy ((f_Mo_go ca va ne (pp + (f_Mo_numberK px))).1) ((f_Mo_go ca va ne (pp + (f_Mo_numberK px))).2.1) cn pp px go ((f_Mo_go ca va ne (pp + (f_Mo_numberK px))).2.2) gi gn) H := hP
              have hD : va_D A (W_Mo cI cL b0 b1 b2 b3 b4 b5 b6 b7 ev wr wg ke ma li ps pn cy ((f_Mo_go ca va ne (pp + (f_Mo_numberK px))).1) ((f_Mo_go ca va ne (pp + (f_Mo_numberK px))).2.1) cn pp px go ((f_Mo_go ca va ne (pp + (f_Mo_numberK px))).2.2) gi gn) := hD
              have hF : f_Mo_branch ca va pp px ne f a b = _ := ((if_pos h2).trans ((if_neg h23).trans ((if_neg h38).trans ((if_neg h43).trans ((if_pos h59).trans (if_neg h67))))))
              rw [hF]
              exact W.vret hx hb hr (fun t ht hW => ⟨⟨(), rfl, trivial, by show va_P D classes _ t.heap; rw [ht]; exact hP⟩, hS.F ht⟩) hS.2.2 d_Mo_branch_83 hlocks
        · refine lv_aload_n hx hb d_Mo_branch_46 rfl (lv_at hl 1 rfl) ?_
          refine cj_v (wc := (W_Mo cI cL b0 b1 b2 b3 b4 b5 b6 b7 ev wr wg ke ma li ps pn cy ca va cn pp px go ne gi gn)) (w1 := (W_Mo cI cL b0 b1 b2 b3 b4 b5 b6 b7 ev wr wg ke ma li ps pn cy ((f_Mo_illegal ca va px).1) ((f_Mo_illegal ca va px).2) cn pp px go ne gi gn)) hP hD hS hA [0, 1, 2, 3, 4, 5, 6, 7] rfl rfl (va_runV (rest := []) ⟨hx, hb, hml, hown, hg⟩ (c_Mo_illegal l D cI cL b0 b1 b2 b3 b4 b5 b6 b7 _ ev wr wg ke ma li ps pn cy ca va cn pp px go ne gi gn) ⟨callB_of 0 hg (gw_good m_661) rfl rfl rfl (hg _ m_71) (hg _ m_658) hd_Mo_illegal ⟨Nat.le_of_ble_eq_true rfl, Nat.le_of_ble_eq_true rfl⟩, hg _ m_660, hg _ m_51⟩ (pw_V hK hN hT hA hP hD hS [0, 1, 2, 3, 4, 5, 6, 7] rfl (by decide) (q0 := 0) (ci := 5) rfl rfl) rfl rfl hl.1 rfl (lv_room (Nat.le_of_ble_eq_true rfl)) d_Mo_branch_47 ⟨Nat.le_of_ble_eq_true rfl, Nat.le_of_ble_eq_true rfl⟩) (fun H locs hP hD hS => ?_)
          have hP : va_P D classes (W_Mo cI cL b0 b1 b2 b3 b4 b5 b6 b7 ev wr wg ke ma li ps pn cy ((f_Mo_illegal ca va px).1) ((f_Mo_illegal ca va px).2) cn pp px go ne gi gn) H := hP
          have hD : va_D A (W_Mo cI cL b0 b1 b2 b3 b4 b5 b6 b7 ev wr wg ke ma li ps pn cy ((f_Mo_illegal ca va px).1) ((f_Mo_illegal ca va px).2) cn pp px go ne gi gn) := hD
          refine lv_goto (tgt := 83) hx hb d_Mo_branch_50 (by decide) ?_
          have hF : f_Mo_branch ca va pp px ne f a b = _ := ((if_pos h2).trans ((if_neg h23).trans ((if_neg h38).trans (if_pos h43))))
          rw [hF]
          exact W.vret hx hb hr (fun t ht hW => ⟨⟨(), rfl, trivial, by show va_P D classes _ t.heap; rw [ht]; exact hP⟩, hS.F ht⟩) hS.2.2 d_Mo_branch_83 hlocks
  · refine lv_iload_n hx hb d_Mo_branch_5 rfl (lv_at hl 2 rfl) ?_
    refine lv_iload_n hx hb d_Mo_branch_6 rfl (lv_at hl 3 rfl) ?_
    refine lv_icmp_ne (tgt := 14) hx hb d_Mo_branch_7 (by decide) (fun h7 => ?_) (fun h7 => ?_)
    · refine lv_iconst (v := 0) hx hb d_Mo_branch_14 (by decide) ?_
      refine lv_goto (tgt := 34) hx hb d_Mo_branch_15 (by decide) ?_
      refine lv_istore (lv' := [(4, .int _), (0, .ref _), (1, .int _), (2, .int _), (3, .int _)]) hx hb d_Mo_branch_34 hl (by decide) rfl (fun ls hl => ?_)
      refine lv_iload_n hx hb d_Mo_branch_36 rfl (lv_at hl 2 rfl) ?_
      refine lv_iconst (v := 2) hx hb d_Mo_branch_37 (by decide) ?_
      refine lv_icmp_eq (tgt := 46) hx hb d_Mo_branch_38 (by decide) (fun h38 => ?_) (fun h38 => ?_)
      · refine lv_aload_n hx hb d_Mo_branch_46 rfl (lv_at hl 1 rfl) ?_
        refine cj_v (wc := (W_Mo cI cL b0 b1 b2 b3 b4 b5 b6 b7 ev wr wg ke ma li ps pn cy ca va cn pp px go ne gi gn)) (w1 := (W_Mo cI cL b0 b1 b2 b3 b4 b5 b6 b7 ev wr wg ke ma li ps pn cy ((f_Mo_illegal ca va px).1) ((f_Mo_illegal ca va px).2) cn pp px go ne gi gn)) hP hD hS hA [0, 1, 2, 3, 4, 5, 6, 7] rfl rfl (va_runV (rest := []) ⟨hx, hb, hml, hown, hg⟩ (c_Mo_illegal l D cI cL b0 b1 b2 b3 b4 b5 b6 b7 _ ev wr wg ke ma li ps pn cy ca va cn pp px go ne gi gn) ⟨callB_of 0 hg (gw_good m_661) rfl rfl rfl (hg _ m_71) (hg _ m_658) hd_Mo_illegal ⟨Nat.le_of_ble_eq_true rfl, Nat.le_of_ble_eq_true rfl⟩, hg _ m_660, hg _ m_51⟩ (pw_V hK hN hT hA hP hD hS [0, 1, 2, 3, 4, 5, 6, 7] rfl (by decide) (q0 := 0) (ci := 5) rfl rfl) rfl rfl hl.1 rfl (lv_room (Nat.le_of_ble_eq_true rfl)) d_Mo_branch_47 ⟨Nat.le_of_ble_eq_true rfl, Nat.le_of_ble_eq_true rfl⟩) (fun H locs hP hD hS => ?_)
        have hP : va_P D classes (W_Mo cI cL b0 b1 b2 b3 b4 b5 b6 b7 ev wr wg ke ma li ps pn cy ((f_Mo_illegal ca va px).1) ((f_Mo_illegal ca va px).2) cn pp px go ne gi gn) H := hP
        have hD : va_D A (W_Mo cI cL b0 b1 b2 b3 b4 b5 b6 b7 ev wr wg ke ma li ps pn cy ((f_Mo_illegal ca va px).1) ((f_Mo_illegal ca va px).2) cn pp px go ne gi gn) := hD
        refine lv_goto (tgt := 83) hx hb d_Mo_branch_50 (by decide) ?_
        have hF : f_Mo_branch ca va pp px ne f a b = _ := ((if_neg h2).trans ((if_neg h7).trans (if_pos h38)))
        rw [hF]
        exact W.vret hx hb hr (fun t ht hW => ⟨⟨(), rfl, trivial, by show va_P D classes _ t.heap; rw [ht]; exact hP⟩, hS.F ht⟩) hS.2.2 d_Mo_branch_83 hlocks
      · refine lv_iload_n hx hb d_Mo_branch_41 rfl (lv_at hl 2 rfl) ?_
        refine lv_iconst (v := 3) hx hb d_Mo_branch_42 (by decide) ?_
        refine lv_icmp_ne (tgt := 53) hx hb d_Mo_branch_43 (by decide) (fun h43 => ?_) (fun h43 => ?_)
        · refine lv_iload hx hb d_Mo_branch_53 (lv_at hl 0 rfl) ?_
          refine lv_iload_n hx hb d_Mo_branch_55 rfl (lv_at hl 2 rfl) ?_
          refine lv_iconst (v := 2) hx hb d_Mo_branch_56 (by decide) ?_
          refine lv_irem hx hb d_Mo_branch_57 (by decide) ?_
          refine lv_iconst (v := 1) hx hb d_Mo_branch_58 (by decide) ?_
          refine lv_icmp_ne (tgt := 66) hx hb d_Mo_branch_59 (by decide) (fun h59 => ?_) (fun h59 => ?_)
          · refine lv_iconst (v := 0) hx hb d_Mo_branch_66 (by decide) ?_
            refine lv_icmp_eq (tgt := 83) hx hb d_Mo_branch_67 (by decide) (fun _ => ?_) (fun h => absurd (by decide) h)
            have hF : f_Mo_branch ca va pp px ne f a b = _ := ((if_neg h2).trans ((if_neg h7).trans ((if_neg h38).trans ((if_neg h43).trans (if_neg h59)))))
            rw [hF]
            exact W.vret hx hb hr (fun t ht hW => ⟨⟨(), rfl, trivial, by show va_P D classes _ t.heap; rw [ht]; exact hP⟩, hS.F ht⟩) hS.2.2 d_Mo_branch_83 hlocks
          · refine lv_iconst (v := 1) hx hb d_Mo_branch_62 (by decide) ?_
            refine lv_goto (tgt := 67) hx hb d_Mo_branch_63 (by decide) ?_
            refine lv_icmp_eq (tgt := 83) hx hb d_Mo_branch_67 (by decide) (fun h => absurd h (by decide)) (fun _ => ?_)
            refine lv_aload_n hx hb d_Mo_branch_70 rfl (lv_at hl 1 rfl) ?_
            refine lv_aload_n hx hb d_Mo_branch_71 rfl (lv_at hl 1 rfl) ?_
            refine va_get (ci := 5) (C := R_Mo) (T := F_Mo) (N := 18) hx hb hg in_Mo hown hK hP 0 rfl rfl 12 (by decide) (hg _ m_515) (fun _ h => h) rfl d_Mo_branch_72 ?_
            refine lv_aload_n hx hb d_Mo_branch_75 rfl (lv_at hl 1 rfl) ?_
            refine cj_i (wc := (W_Mo cI cL b0 b1 b2 b3 b4 b5 b6 b7 ev wr wg ke ma li ps pn cy ca va cn pp px go ne gi gn)) (w1 := (W_Mo cI cL b0 b1 b2 b3 b4 b5 b6 b7 ev wr wg ke ma li ps pn cy ca va cn pp px go ne gi gn)) hP hD hS hA [0, 1, 2, 3, 4, 5, 6, 7] rfl rfl (va_runV (rest := [.int _, .ref _]) ⟨hx, hb, hml, hown, hg⟩ (c_Mo_numberK l D cI cL b0 b1 b2 b3 b4 b5 b6 b7 _ ev wr wg ke ma li ps pn cy ca va cn pp px go ne gi gn) ⟨callB_of 0 hg (gw_good m_672) rfl rfl rfl (hg _ m_71) (hg _ m_669) hd_Mo_numberK ⟨Nat.le_of_ble_eq_true rfl, Nat.le_of_ble_eq_true rfl⟩, hg _ m_671, hg _ m_53⟩ (pw_V hK hN hT hA hP hD hS [0, 1, 2, 3, 4, 5, 6, 7] rfl (by decide) (q0 := 0) (ci := 5) rfl rfl) rfl rfl hl.1 rfl (lv_room (Nat.le_of_ble_eq_true rfl)) d_Mo_branch_76 ⟨Nat.le_of_ble_eq_true rfl, Nat.le_of_ble_eq_true rfl⟩) (fun H locs hP hD hS => ?_)
            have hP : va_P D classes (W_Mo cI cL b0 b1 b2 b3 b4 b5 b6 b7 ev wr wg ke ma li ps pn cy ca va cn pp px go ne gi gn) H := hP
            have hD : va_D A (W_Mo cI cL b0 b1 b2 b3 b4 b5 b6 b7 ev wr wg ke ma li ps pn cy ca va cn pp px go ne gi gn) := hD
            refine lv_iadd hx hb d_Mo_branch_79 ?_
            refine cj_v (wc := (W_Mo cI cL b0 b1 b2 b3 b4 b5 b6 b7 ev wr wg ke ma li ps pn cy ca va cn pp px go ne gi gn)) (w1 := (W_Mo cI cL b0 b1 b2 b3 b4 b5 b6 b7 ev wr wg ke ma li ps pn cy ((f_Mo_go ca va ne (pp + (f_Mo_numberK px))).1) ((f_Mo_go ca va ne (pp + (f_Mo_numberK px))).2.1) cn pp px go ((f_Mo_go ca va ne (pp + (f_Mo_numberK px))).2.2) gi gn)) hP hD hS hA [0, 1, 2, 3, 4, 5, 6, 7] rfl rfl (va_runV (rest := []) ⟨hx, hb, hml, hown, hg⟩ (c_Mo_go l D cI cL b0 b1 b2 b3 b4 b5 b6 b7 _ ev wr wg ke ma li ps pn cy ca va cn pp px go ne gi gn (pp + (f_Mo_numberK px))) ⟨callB_of 1 hg (gw_good m_653) rfl rfl rfl (hg _ m_71) (hg _ m_650) hd_Mo_go ⟨Nat.le_of_ble_eq_true rfl, Nat.le_of_ble_eq_true rfl⟩, hg _ m_652, hg _ m_49⟩ (pw_V hK hN hT hA hP hD hS [0, 1, 2, 3, 4, 5, 6, 7] rfl (by decide) (q0 := 0) (ci := 5) rfl rfl) rfl rfl hl.1 rfl (lv_room (Nat.le_of_ble_eq_true rfl)) d_Mo_branch_80 ⟨Nat.le_of_ble_eq_true rfl, Nat.le_of_ble_eq_true rfl⟩) (fun H locs hP hD hS => ?_)
            have hP : va_P D classes (W_Mo cI cL b0 b1 b2 b3 b4 b5 b6 b7 ev wr wg ke ma li ps pn cy ((f_Mo_go ca va ne (pp + (f_Mo_numberK px))).1) ((f_Mo_go ca va ne (pp + (f_Mo_numberK px))).2.1) cn pp px go ((f_Mo_go ca va ne (pp + (f_Mo_numberK px))).2.2) gi gn) H := hP
            have hD : va_D A (W_Mo cI cL b0 b1 b2 b3 b4 b5 b6 b7 ev wr wg ke ma li ps pn cy ((f_Mo_go ca va ne (pp + (f_Mo_numberK px))).1) ((f_Mo_go ca va ne (pp + (f_Mo_numberK px))).2.1) cn pp px go ((f_Mo_go ca va ne (pp + (f_Mo_numberK px))).2.2) gi gn) := hD
            have hF : f_Mo_branch ca va pp px ne f a b = _ := ((if_neg h2).trans ((if_neg h7).trans ((if_neg h38).trans ((if_neg h43).trans (if_pos h59)))))
            rw [hF]
            exact W.vret hx hb hr (fun t ht hW => ⟨⟨(), rfl, trivial, by show va_P D classes _ t.heap; rw [ht]; exact hP⟩, hS.F ht⟩) hS.2.2 d_Mo_branch_83 hlocks
        · refine lv_aload_n hx hb d_Mo_branch_46 rfl (lv_at hl 1 rfl) ?_
          refine cj_v (wc := (W_Mo cI cL b0 b1 b2 b3 b4 b5 b6 b7 ev wr wg ke ma li ps pn cy ca va cn pp px go ne gi gn)) (w1 := (W_Mo cI cL b0 b1 b2 b3 b4 b5 b6 b7 ev wr wg ke ma li ps pn cy ((f_Mo_illegal ca va px).1) ((f_Mo_illegal ca va px).2) cn pp px go ne gi gn)) hP hD hS hA [0, 1, 2, 3, 4, 5, 6, 7] rfl rfl (va_runV (rest := []) ⟨hx, hb, hml, hown, hg⟩ (c_Mo_illegal l D cI cL b0 b1 b2 b3 b4 b5 b6 b7 _ ev wr wg ke ma li ps pn cy ca va cn pp px go ne gi gn) ⟨callB_of 0 hg (gw_good m_661) rfl rfl rfl (hg _ m_71) (hg _ m_658) hd_Mo_illegal ⟨Nat.le_of_ble_eq_true rfl, Nat.le_of_ble_eq_true rfl⟩, hg _ m_660, hg _ m_51⟩ (pw_V hK hN hT hA hP hD hS [0, 1, 2, 3, 4, 5, 6, 7] rfl (by decide) (q0 := 0) (ci := 5) rfl rfl) rfl rfl hl.1 rfl (lv_room (Nat.le_of_ble_eq_true rfl)) d_Mo_branch_47 ⟨Nat.le_of_ble_eq_true rfl, Nat.le_of_ble_eq_true rfl⟩) (fun H locs hP hD hS => ?_)
          have hP : va_P D classes (W_Mo cI cL b0 b1 b2 b3 b4 b5 b6 b7 ev wr wg ke ma li ps pn cy ((f_Mo_illegal ca va px).1) ((f_Mo_illegal ca va px).2) cn pp px go ne gi gn) H := hP
          have hD : va_D A (W_Mo cI cL b0 b1 b2 b3 b4 b5 b6 b7 ev wr wg ke ma li ps pn cy ((f_Mo_illegal ca va px).1) ((f_Mo_illegal ca va px).2) cn pp px go ne gi gn) := hD
          refine lv_goto (tgt := 83) hx hb d_Mo_branch_50 (by decide) ?_
          have hF : f_Mo_branch ca va pp px ne f a b = _ := ((if_neg h2).trans ((if_neg h7).trans ((if_neg h38).trans (if_pos h43))))
          rw [hF]
          exact W.vret hx hb hr (fun t ht hW => ⟨⟨(), rfl, trivial, by show va_P D classes _ t.heap; rw [ht]; exact hP⟩, hS.F ht⟩) hS.2.2 d_Mo_branch_83 hlocks
    · refine lv_iconst (v := 1) hx hb d_Mo_branch_10 (by decide) ?_
      refine lv_goto (tgt := 34) hx hb d_Mo_branch_11 (by decide) ?_
      refine lv_istore (lv' := [(4, .int _), (0, .ref _), (1, .int _), (2, .int _), (3, .int _)]) hx hb d_Mo_branch_34 hl (by decide) rfl (fun ls hl => ?_)
      refine lv_iload_n hx hb d_Mo_branch_36 rfl (lv_at hl 2 rfl) ?_
      refine lv_iconst (v := 2) hx hb d_Mo_branch_37 (by decide) ?_
      refine lv_icmp_eq (tgt := 46) hx hb d_Mo_branch_38 (by decide) (fun h38 => ?_) (fun h38 => ?_)
      · refine lv_aload_n hx hb d_Mo_branch_46 rfl (lv_at hl 1 rfl) ?_
        refine cj_v (wc := (W_Mo cI cL b0 b1 b2 b3 b4 b5 b6 b7 ev wr wg ke ma li ps pn cy ca va cn pp px go ne gi gn)) (w1 := (W_Mo cI cL b0 b1 b2 b3 b4 b5 b6 b7 ev wr wg ke ma li ps pn cy ((f_Mo_illegal ca va px).1) ((f_Mo_illegal ca va px).2) cn pp px go ne gi gn)) hP hD hS hA [0, 1, 2, 3, 4, 5, 6, 7] rfl rfl (va_runV (rest := []) ⟨hx, hb, hml, hown, hg⟩ (c_Mo_illegal l D cI cL b0 b1 b2 b3 b4 b5 b6 b7 _ ev wr wg ke ma li ps pn cy ca va cn pp px go ne gi gn) ⟨callB_of 0 hg (gw_good m_661) rfl rfl rfl (hg _ m_71) (hg _ m_658) hd_Mo_illegal ⟨Nat.le_of_ble_eq_true rfl, Nat.le_of_ble_eq_true rfl⟩, hg _ m_660, hg _ m_51⟩ (pw_V hK hN hT hA hP hD hS [0, 1, 2, 3, 4, 5, 6, 7] rfl (by decide) (q0 := 0) (ci := 5) rfl rfl) rfl rfl hl.1 rfl (lv_room (Nat.le_of_ble_eq_true rfl)) d_Mo_branch_47 ⟨Nat.le_of_ble_eq_true rfl, Nat.le_of_ble_eq_true rfl⟩) (fun H locs hP hD hS => ?_)
        have hP : va_P D classes (W_Mo cI cL b0 b1 b2 b3 b4 b5 b6 b7 ev wr wg ke ma li ps pn cy ((f_Mo_illegal ca va px).1) ((f_Mo_illegal ca va px).2) cn pp px go ne gi gn) H := hP
        have hD : va_D A (W_Mo cI cL b0 b1 b2 b3 b4 b5 b6 b7 ev wr wg ke ma li ps pn cy ((f_Mo_illegal ca va px).1) ((f_Mo_illegal ca va px).2) cn pp px go ne gi gn) := hD
        refine lv_goto (tgt := 83) hx hb d_Mo_branch_50 (by decide) ?_
        have hF : f_Mo_branch ca va pp px ne f a b = _ := ((if_neg h2).trans ((if_pos h7).trans (if_pos h38)))
        rw [hF]
        exact W.vret hx hb hr (fun t ht hW => ⟨⟨(), rfl, trivial, by show va_P D classes _ t.heap; rw [ht]; exact hP⟩, hS.F ht⟩) hS.2.2 d_Mo_branch_83 hlocks
      · refine lv_iload_n hx hb d_Mo_branch_41 rfl (lv_at hl 2 rfl) ?_
        refine lv_iconst (v := 3) hx hb d_Mo_branch_42 (by decide) ?_
        refine lv_icmp_ne (tgt := 53) hx hb d_Mo_branch_43 (by decide) (fun h43 => ?_) (fun h43 => ?_)
        · refine lv_iload hx hb d_Mo_branch_53 (lv_at hl 0 rfl) ?_
          refine lv_iload_n hx hb d_Mo_branch_55 rfl (lv_at hl 2 rfl) ?_
          refine lv_iconst (v := 2) hx hb d_Mo_branch_56 (by decide) ?_
          refine lv_irem hx hb d_Mo_branch_57 (by decide) ?_
          refine lv_iconst (v := 1) hx hb d_Mo_branch_58 (by decide) ?_
          refine lv_icmp_ne (tgt := 66) hx hb d_Mo_branch_59 (by decide) (fun h59 => ?_) (fun h59 => ?_)
          · refine lv_iconst (v := 0) hx hb d_Mo_branch_66 (by decide) ?_
            refine lv_icmp_eq (tgt := 83) hx hb d_Mo_branch_67 (by decide) (fun h => absurd h (by decide)) (fun _ => ?_)
            refine lv_aload_n hx hb d_Mo_branch_70 rfl (lv_at hl 1 rfl) ?_
            refine lv_aload_n hx hb d_Mo_branch_71 rfl (lv_at hl 1 rfl) ?_
            refine va_get (ci := 5) (C := R_Mo) (T := F_Mo) (N := 18) hx hb hg in_Mo hown hK hP 0 rfl rfl 12 (by decide) (hg _ m_515) (fun _ h => h) rfl d_Mo_branch_72 ?_
            refine lv_aload_n hx hb d_Mo_branch_75 rfl (lv_at hl 1 rfl) ?_
            refine cj_i (wc := (W_Mo cI cL b0 b1 b2 b3 b4 b5 b6 b7 ev wr wg ke ma li ps pn cy ca va cn pp px go ne gi gn)) (w1 := (W_Mo cI cL b0 b1 b2 b3 b4 b5 b6 b7 ev wr wg ke ma li ps pn cy ca va cn pp px go ne gi gn)) hP hD hS hA [0, 1, 2, 3, 4, 5, 6, 7] rfl rfl (va_runV (rest := [.int _, .ref _]) ⟨hx, hb, hml, hown, hg⟩ (c_Mo_numberK l D cI cL b0 b1 b2 b3 b4 b5 b6 b7 _ ev wr wg ke ma li ps pn cy ca va cn pp px go ne gi gn) ⟨callB_of 0 hg (gw_good m_672) rfl rfl rfl (hg _ m_71) (hg _ m_669) hd_Mo_numberK ⟨Nat.le_of_ble_eq_true rfl, Nat.le_of_ble_eq_true rfl⟩, hg _ m_671, hg _ m_53⟩ (pw_V hK hN hT hA hP hD hS [0, 1, 2, 3, 4, 5, 6, 7] rfl (by decide) (q0 := 0) (ci := 5) rfl rfl) rfl rfl hl.1 rfl (lv_room (Nat.le_of_ble_eq_true rfl)) d_Mo_branch_76 ⟨Nat.le_of_ble_eq_true rfl, Nat.le_of_ble_eq_true rfl⟩) (fun H locs hP hD hS => ?_)
            have hP : va_P D classes (W_Mo cI cL b0 b1 b2 b3 b4 b5 b6 b7 ev wr wg ke ma li ps pn cy ca va cn pp px go ne gi gn) H := hP
            have hD : va_D A (W_Mo cI cL b0 b1 b2 b3 b4 b5 b6 b7 ev wr wg ke ma li ps pn cy ca va cn pp px go ne gi gn) := hD
            refine lv_iadd hx hb d_Mo_branch_79 ?_
            refine cj_v (wc := (W_Mo cI cL b0 b1 b2 b3 b4 b5 b6 b7 ev wr wg ke ma li ps pn cy ca va cn pp px go ne gi gn)) (w1 := (W_Mo cI cL b0 b1 b2 b3 b4 b5 b6 b7 ev wr wg ke ma li ps pn cy ((f_Mo_go ca va ne (pp + (f_Mo_numberK px))).1) ((f_Mo_go ca va ne (pp + (f_Mo_numberK px))).2.1) cn pp px go ((f_Mo_go ca va ne (pp + (f_Mo_numberK px))).2.2) gi gn)) hP hD hS hA [0, 1, 2, 3, 4, 5, 6, 7] rfl rfl (va_runV (rest := []) ⟨hx, hb, hml, hown, hg⟩ (c_Mo_go l D cI cL b0 b1 b2 b3 b4 b5 b6 b7 _ ev wr wg ke ma li ps pn cy ca va cn pp px go ne gi gn (pp + (f_Mo_numberK px))) ⟨callB_of 1 hg (gw_good m_653) rfl rfl rfl (hg _ m_71) (hg _ m_650) hd_Mo_go ⟨Nat.le_of_ble_eq_true rfl, Nat.le_of_ble_eq_true rfl⟩, hg _ m_652, hg _ m_49⟩ (pw_V hK hN hT hA hP hD hS [0, 1, 2, 3, 4, 5, 6, 7] rfl (by decide) (q0 := 0) (ci := 5) rfl rfl) rfl rfl hl.1 rfl (lv_room (Nat.le_of_ble_eq_true rfl)) d_Mo_branch_80 ⟨Nat.le_of_ble_eq_true rfl, Nat.le_of_ble_eq_true rfl⟩) (fun H locs hP hD hS => ?_)
            have hP : va_P D classes (W_Mo cI cL b0 b1 b2 b3 b4 b5 b6 b7 ev wr wg ke ma li ps pn cy ((f_Mo_go ca va ne (pp + (f_Mo_numberK px))).1) ((f_Mo_go ca va ne (pp + (f_Mo_numberK px))).2.1) cn pp px go ((f_Mo_go ca va ne (pp + (f_Mo_numberK px))).2.2) gi gn) H := hP
            have hD : va_D A (W_Mo cI cL b0 b1 b2 b3 b4 b5 b6 b7 ev wr wg ke ma li ps pn cy ((f_Mo_go ca va ne (pp + (f_Mo_numberK px))).1) ((f_Mo_go ca va ne (pp + (f_Mo_numberK px))).2.1) cn pp px go ((f_Mo_go ca va ne (pp + (f_Mo_numberK px))).2.2) gi gn) := hD
            have hF : f_Mo_branch ca va pp px ne f a b = _ := ((if_neg h2).trans ((if_pos h7).trans ((if_neg h38).trans ((if_neg h43).trans (if_neg h59)))))
            rw [hF]
            exact W.vret hx hb hr (fun t ht hW => ⟨⟨(), rfl, trivial, by show va_P D classes _ t.heap; rw [ht]; exact hP⟩, hS.F ht⟩) hS.2.2 d_Mo_branch_83 hlocks
          · refine lv_iconst (v := 1) hx hb d_Mo_branch_62 (by decide) ?_
            refine lv_goto (tgt := 67) hx hb d_Mo_branch_63 (by decide) ?_
            refine lv_icmp_eq (tgt := 83) hx hb d_Mo_branch_67 (by decide) (fun _ => ?_) (fun h => absurd (by decide) h)
            have hF : f_Mo_branch ca va pp px ne f a b = _ := ((if_neg h2).trans ((if_pos h7).trans ((if_neg h38).trans ((if_neg h43).trans (if_pos h59)))))
            rw [hF]
            exact W.vret hx hb hr (fun t ht hW => ⟨⟨(), rfl, trivial, by show va_P D classes _ t.heap; rw [ht]; exact hP⟩, hS.F ht⟩) hS.2.2 d_Mo_branch_83 hlocks
        · refine lv_aload_n hx hb d_Mo_branch_46 rfl (lv_at hl 1 rfl) ?_
          refine cj_v (wc := (W_Mo cI cL b0 b1 b2 b3 b4 b5 b6 b7 ev wr wg ke ma li ps pn cy ca va cn pp px go ne gi gn)) (w1 := (W_Mo cI cL b0 b1 b2 b3 b4 b5 b6 b7 ev wr wg ke ma li ps pn cy ((f_Mo_illegal ca va px).1) ((f_Mo_illegal ca va px).2) cn pp px go ne gi gn)) hP hD hS hA [0, 1, 2, 3, 4, 5, 6, 7] rfl rfl (va_runV (rest := []) ⟨hx, hb, hml, hown, hg⟩ (c_Mo_illegal l D cI cL b0 b1 b2 b3 b4 b5 b6 b7 _ ev wr wg ke ma li ps pn cy ca va cn pp px go ne gi gn) ⟨callB_of 0 hg (gw_good m_661) rfl rfl rfl (hg _ m_71) (hg _ m_658) hd_Mo_illegal ⟨Nat.le_of_ble_eq_true rfl, Nat.le_of_ble_eq_true rfl⟩, hg _ m_660, hg _ m_51⟩ (pw_V hK hN hT hA hP hD hS [0, 1, 2, 3, 4, 5, 6, 7] rfl (by decide) (q0 := 0) (ci := 5) rfl rfl) rfl rfl hl.1 rfl (lv_room (Nat.le_of_ble_eq_true rfl)) d_Mo_branch_47 ⟨Nat.le_of_ble_eq_true rfl, Nat.le_of_ble_eq_true rfl⟩) (fun H locs hP hD hS => ?_)
          have hP : va_P D classes (W_Mo cI cL b0 b1 b2 b3 b4 b5 b6 b7 ev wr wg ke ma li ps pn cy ((f_Mo_illegal ca va px).1) ((f_Mo_illegal ca va px).2) cn pp px go ne gi gn) H := hP
          have hD : va_D A (W_Mo cI cL b0 b1 b2 b3 b4 b5 b6 b7 ev wr wg ke ma li ps pn cy ((f_Mo_illegal ca va px).1) ((f_Mo_illegal ca va px).2) cn pp px go ne gi gn) := hD
          refine lv_goto (tgt := 83) hx hb d_Mo_branch_50 (by decide) ?_
          have hF : f_Mo_branch ca va pp px ne f a b = _ := ((if_neg h2).trans ((if_pos h7).trans ((if_neg h38).trans (if_pos h43))))
          rw [hF]
          exact W.vret hx hb hr (fun t ht hW => ⟨⟨(), rfl, trivial, by show va_P D classes _ t.heap; rw [ht]; exact hP⟩, hS.F ht⟩) hS.2.2 d_Mo_branch_83 hlocks
abbrev q_Mo_reaches (D : va_G) (cI cL : ClassId) (b0 b1 b2 b3 b4 b5 b6 b7 : Nat) (A : Nat → Prop) (ev : Int32) (wr : Nat → Int32) (wg : Nat → Int64) (ke : Nat → Int32) (ma : Nat → Int32) (li : Nat → Int64) (ps : Int32) (pn : Nat → Int32) (cy : Int32) (ca : Int32) (va : Int32) (cn : Nat → Int32) (pp : Int32) (px : Int32) (go : Int32) (ne : Int32) (gi : Int32) (gn : Int32) (F : Int32 × Int32 × Int32) : Array Value → State → Outcome → State → Prop := va_Qi (fun r (_ : Unit) => r = F.1) (fun _ t => va_P D classes (W_Mo cI cL b0 b1 b2 b3 b4 b5 b6 b7 ev wr wg ke ma li ps pn cy F.2.1 F.2.2 cn pp px go ne gi gn) t.heap) A
set_option maxHeartbeats 4000000 in
set_option maxRecDepth 100000 in
theorem c_Mo_reaches (l : Launch) (D : va_G) (cI cL : ClassId) (b0 b1 b2 b3 b4 b5 b6 b7 : Nat) (sz : Nat) (ev : Int32) (wr : Nat → Int32) (wg : Nat → Int64) (ke : Nat → Int32) (ma : Nat → Int32) (li : Nat → Int64) (ps : Int32) (pn : Nat → Int32) (cy : Int32) (ca : Int32) (va : Int32) (cn : Nat → Int32) (pp : Int32) (px : Int32) (go : Int32) (ne : Int32) (gi : Int32) (gn : Int32) (a : Int32) (z : Int32) (h_z : ¬ z = 0) : Met l y_Mo_reaches w_Mo_reaches ({ frames := 1, cells := 0, slots := 0, locals := 22 }) (va_Pc [.ref b0, .int a, .int z] (PW D cI cL (W_Mo cI cL b0 b1 b2 b3 b4 b5 b6 b7 ev wr wg ke ma li ps pn cy ca va cn pp px go ne gi gn) sz)) (q_Mo_reaches D cI cL b0 b1 b2 b3 b4 b5 b6 b7 (va_A (W_Mo cI cL b0 b1 b2 b3 b4 b5 b6 b7 ev wr wg ke ma li ps pn cy ca va cn pp px go ne gi gn) sz) ev wr wg ke ma li ps pn cy ca va cn pp px go ne gi gn (f_Mo_reaches ca va a z)) 0 0 (va_A (W_Mo cI cL b0 b1 b2 b3 b4 b5 b6 b7 ev wr wg ke ma li ps pn cy ca va cn pp px go ne gi gn) sz) := by
  refine mk_met (Qf := fun A => q_Mo_reaches D cI cL b0 b1 b2 b3 b4 b5 b6 b7 A ev wr wg ke ma li ps pn cy ca va cn pp px go ne gi gn (f_Mo_reaches ca va a z)) (by decide) (Nat.le_of_ble_eq_true rfl) ?_
  intro p e s m below meth c A ls hx hb hr hlocks hml hown hg hK hN hT hA hP hD hS hnm hl
  refine lv_iload_n hx hb d_Mo_reaches_0 rfl (lv_at hl 1 rfl) ?_
  refine lv_iload_n hx hb d_Mo_reaches_1 rfl (lv_at hl 2 rfl) ?_
  refine lv_irem hx hb d_Mo_reaches_2 h_z ?_
  refine lv_if_ne (tgt := 16) hx hb d_Mo_reaches_3 (by decide) (fun h3 => ?_) (fun h3 => ?_)
  · refine lv_aload_n hx hb d_Mo_reaches_16 rfl (lv_at hl 0 rfl) ?_
    refine lv_iconst (v := 1) hx hb d_Mo_reaches_17 (by decide) ?_
    refine lv_iload_n hx hb d_Mo_reaches_18 rfl (lv_at hl 1 rfl) ?_
    refine cj_v (wc := (W_Mo cI cL b0 b1 b2 b3 b4 b5 b6 b7 ev wr wg ke ma li ps pn cy ca va cn pp px go ne gi gn)) (w1 := (W_Mo cI cL b0 b1 b2 b3 b4 b5 b6 b7 ev wr wg ke ma li ps pn cy ((f_Mo_stop ca va (1 : Int32) a).1) ((f_Mo_stop ca va (1 : Int32) a).2) cn pp px go ne gi gn)) hP hD hS hA [0, 1, 2, 3, 4, 5, 6, 7] rfl rfl (va_runV (rest := []) ⟨hx, hb, hml, hown, hg⟩ (c_Mo_stop l D cI cL b0 b1 b2 b3 b4 b5 b6 b7 _ ev wr wg ke ma li ps pn cy ca va cn pp px go ne gi gn (1 : Int32) a) ⟨callB_of 2 hg (gw_good m_595) rfl rfl rfl (hg _ m_71) (hg _ m_592) hd_Mo_stop ⟨Nat.le_of_ble_eq_true rfl, Nat.le_of_ble_eq_true rfl⟩, hg _ m_594, hg _ m_40⟩ (pw_V hK hN hT hA hP hD hS [0, 1, 2, 3, 4, 5, 6, 7] rfl (by decide) (q0 := 0) (ci := 5) rfl rfl) rfl rfl hl.1 rfl (lv_room (Nat.le_of_ble_eq_true rfl)) d_Mo_reaches_19 ⟨Nat.le_of_ble_eq_true rfl, Nat.le_of_ble_eq_true rfl⟩) (fun H locs hP hD hS => ?_)
    have hP : va_P D classes (W_Mo cI cL b0 b1 b2 b3 b4 b5 b6 b7 ev wr wg ke ma li ps pn cy ((f_Mo_stop ca va (1 : Int32) a).1) ((f_Mo_stop ca va (1 : Int32) a).2) cn pp px go ne gi gn) H := hP
    have hD : va_D A (W_Mo cI cL b0 b1 b2 b3 b4 b5 b6 b7 ev wr wg ke ma li ps pn cy ((f_Mo_stop ca va (1 : Int32) a).1) ((f_Mo_stop ca va (1 : Int32) a).2) cn pp px go ne gi gn) := hD
    refine lv_iconst (v := 0) hx hb d_Mo_reaches_22 (by decide) ?_
    have hF : f_Mo_reaches ca va a z = _ := (if_neg h3)
    rw [hF]
    exact W.zret hx hb hr rfl (fun t ht hW => ⟨⟨_, (), rfl, rfl, by show va_P D classes _ t.heap; rw [ht]; exact hP⟩, hS.F ht⟩) hS.2.2 d_Mo_reaches_23 hlocks
  · refine lv_iload_n hx hb d_Mo_reaches_6 rfl (lv_at hl 1 rfl) ?_
    refine lv_sipush (v := 255) hx hb d_Mo_reaches_7 (by decide) ?_
    refine cj_i (wc := []) (w1 := []) hP hD hS hA [] rfl rfl (va_runS (rest := []) ⟨hx, hb, hml, hown, hg⟩ (c_Mo_outside l D cI cL  _ a (255 : Int32)) ⟨callB_of 2 hg (gw_good m_564) rfl rfl rfl (hg _ m_71) (hg _ m_562) hd_Mo_outside ⟨Nat.le_of_ble_eq_true rfl, Nat.le_of_ble_eq_true rfl⟩, hg _ m_563⟩ (pw_S hK hN hT hA hP hD hS [] rfl (by decide)) rfl rfl hl.1 rfl (lv_room (Nat.le_of_ble_eq_true rfl)) d_Mo_reaches_10 ⟨Nat.le_of_ble_eq_true rfl, Nat.le_of_ble_eq_true rfl⟩) (fun H locs hP hD hS => ?_)
    have hP : va_P D classes (W_Mo cI cL b0 b1 b2 b3 b4 b5 b6 b7 ev wr wg ke ma li ps pn cy ca va cn pp px go ne gi gn) H := hP
    have hD : va_D A (W_Mo cI cL b0 b1 b2 b3 b4 b5 b6 b7 ev wr wg ke ma li ps pn cy ca va cn pp px go ne gi gn) := hD
    refine lv_if_eq (tgt := 24) hx hb d_Mo_reaches_13 (by decide) (fun h13 => ?_) (fun h13 => ?_)
    · refine lv_iconst (v := 1) hx hb d_Mo_reaches_24 (by decide) ?_
      have hF : f_Mo_reaches ca va a z = _ := ((if_pos h3).trans (if_pos h13))
      rw [hF]
      exact W.zret hx hb hr rfl (fun t ht hW => ⟨⟨_, (), rfl, rfl, by show va_P D classes _ t.heap; rw [ht]; exact hP⟩, hS.F ht⟩) hS.2.2 d_Mo_reaches_25 hlocks
    · refine lv_aload_n hx hb d_Mo_reaches_16 rfl (lv_at hl 0 rfl) ?_
      refine lv_iconst (v := 1) hx hb d_Mo_reaches_17 (by decide) ?_
      refine lv_iload_n hx hb d_Mo_reaches_18 rfl (lv_at hl 1 rfl) ?_
      refine cj_v (wc := (W_Mo cI cL b0 b1 b2 b3 b4 b5 b6 b7 ev wr wg ke ma li ps pn cy ca va cn pp px go ne gi gn)) (w1 := (W_Mo cI cL b0 b1 b2 b3 b4 b5 b6 b7 ev wr wg ke ma li ps pn cy ((f_Mo_stop ca va (1 : Int32) a).1) ((f_Mo_stop ca va (1 : Int32) a).2) cn pp px go ne gi gn)) hP hD hS hA [0, 1, 2, 3, 4, 5, 6, 7] rfl rfl (va_runV (rest := []) ⟨hx, hb, hml, hown, hg⟩ (c_Mo_stop l D cI cL b0 b1 b2 b3 b4 b5 b6 b7 _ ev wr wg ke ma li ps pn cy ca va cn pp px go ne gi gn (1 : Int32) a) ⟨callB_of 2 hg (gw_good m_595) rfl rfl rfl (hg _ m_71) (hg _ m_592) hd_Mo_stop ⟨Nat.le_of_ble_eq_true rfl, Nat.le_of_ble_eq_true rfl⟩, hg _ m_594, hg _ m_40⟩ (pw_V hK hN hT hA hP hD hS [0, 1, 2, 3, 4, 5, 6, 7] rfl (by decide) (q0 := 0) (ci := 5) rfl rfl) rfl rfl hl.1 rfl (lv_room (Nat.le_of_ble_eq_true rfl)) d_Mo_reaches_19 ⟨Nat.le_of_ble_eq_true rfl, Nat.le_of_ble_eq_true rfl⟩) (fun H locs hP hD hS => ?_)
      have hP : va_P D classes (W_Mo cI cL b0 b1 b2 b3 b4 b5 b6 b7 ev wr wg ke ma li ps pn cy ((f_Mo_stop ca va (1 : Int32) a).1) ((f_Mo_stop ca va (1 : Int32) a).2) cn pp px go ne gi gn) H := hP
      have hD : va_D A (W_Mo cI cL b0 b1 b2 b3 b4 b5 b6 b7 ev wr wg ke ma li ps pn cy ((f_Mo_stop ca va (1 : Int32) a).1) ((f_Mo_stop ca va (1 : Int32) a).2) cn pp px go ne gi gn) := hD
      refine lv_iconst (v := 0) hx hb d_Mo_reaches_22 (by decide) ?_
      have hF : f_Mo_reaches ca va a z = _ := ((if_pos h3).trans (if_neg h13))
      rw [hF]
      exact W.zret hx hb hr rfl (fun t ht hW => ⟨⟨_, (), rfl, rfl, by show va_P D classes _ t.heap; rw [ht]; exact hP⟩, hS.F ht⟩) hS.2.2 d_Mo_reaches_23 hlocks
