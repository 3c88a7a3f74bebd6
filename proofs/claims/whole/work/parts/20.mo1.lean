abbrev q_Mo_outside (D : va_G) (cI cL : ClassId) (A : Nat → Prop)  (F : Int32) : Array Value → State → Outcome → State → Prop := va_Qi (fun r (_ : Unit) => r = F) (fun _ t => va_P D classes [] t.heap) A
theorem f_Mo_outside_e0 (v : Int32) (n_ : Int32)  (h1 : v < 0) : f_Mo_outside v n_ = ((1 : Int32)) := by
  exact (if_pos h1)
theorem f_Mo_outside_e1 (v : Int32) (n_ : Int32)  (h1 : ¬ v < 0) (h6 : v ≤ n_) : f_Mo_outside v n_ = ((0 : Int32)) := by
  exact ((if_neg h1).trans (if_pos h6))
theorem f_Mo_outside_e2 (v : Int32) (n_ : Int32)  (h1 : ¬ v < 0) (h6 : ¬ v ≤ n_) : f_Mo_outside v n_ = ((1 : Int32)) := by
  exact ((if_neg h1).trans (if_neg h6))
set_option maxHeartbeats 4000000 in
set_option maxRecDepth 100000 in
theorem c_Mo_outside (l : Launch) (D : va_G) (cI cL : ClassId) (sz : Nat)  (v : Int32) (n_ : Int32)  : Met l y_Mo_outside w_Mo_outside ({ frames := 0, cells := 0, slots := 0, locals := 0 }) (va_Pc [.int v, .int n_] (PW D cI cL [] sz)) (q_Mo_outside D cI cL (va_A [] sz)  (f_Mo_outside v n_)) 0 0 (va_A [] sz) := by
  refine mk_met (Qf := fun A => q_Mo_outside D cI cL A  (f_Mo_outside v n_)) (by decide) (Nat.le_of_ble_eq_true rfl) ?_
  intro p e s m below meth c A ls hx hb hr hlocks hml hown hg hK hN hT hA hP hD hS hnm hl
  refine lv_iload_n hx hb d_Mo_outside_0 rfl (lv_at hl 0 rfl) ?_
  refine lv_if_lt (tgt := 9) hx hb d_Mo_outside_1 (by decide) (fun h1 => ?_) (fun h1 => ?_)
  · refine lv_iconst (v := 1) hx hb d_Mo_outside_9 (by decide) ?_
    refine lv_goto (tgt := 14) hx hb d_Mo_outside_10 (by decide) ?_
    rw [f_Mo_outside_e0 v n_ h1]
    exact W.zret hx hb hr rfl (fun t ht hW => ⟨⟨_, (), rfl, rfl, by show va_P D classes _ t.heap; rw [ht]; exact hP⟩, hS.F ht⟩) hS.2.2 d_Mo_outside_14 hlocks
  · refine lv_iload_n hx hb d_Mo_outside_4 rfl (lv_at hl 0 rfl) ?_
    refine lv_iload_n hx hb d_Mo_outside_5 rfl (lv_at hl 1 rfl) ?_
    refine lv_icmp_le (tgt := 13) hx hb d_Mo_outside_6 (by decide) (fun h6 => ?_) (fun h6 => ?_)
    · refine lv_iconst (v := 0) hx hb d_Mo_outside_13 (by decide) ?_
      rw [f_Mo_outside_e1 v n_ h1 h6]
      exact W.zret hx hb hr rfl (fun t ht hW => ⟨⟨_, (), rfl, rfl, by show va_P D classes _ t.heap; rw [ht]; exact hP⟩, hS.F ht⟩) hS.2.2 d_Mo_outside_14 hlocks
    · refine lv_iconst (v := 1) hx hb d_Mo_outside_9 (by decide) ?_
      refine lv_goto (tgt := 14) hx hb d_Mo_outside_10 (by decide) ?_
      rw [f_Mo_outside_e2 v n_ h1 h6]
      exact W.zret hx hb hr rfl (fun t ht hW => ⟨⟨_, (), rfl, rfl, by show va_P D classes _ t.heap; rw [ht]; exact hP⟩, hS.F ht⟩) hS.2.2 d_Mo_outside_14 hlocks
abbrev q_Mo_isData (D : va_G) (cI cL : ClassId) (A : Nat → Prop)  (F : Int32) : Array Value → State → Outcome → State → Prop := va_Qi (fun r (_ : Unit) => r = F) (fun _ t => va_P D classes [] t.heap) A
theorem f_Mo_isData_e0 (k : Int32)  (h5 : (k &&& (k - (1 : Int32))) = 0) : f_Mo_isData k = ((0 : Int32)) := by
  exact (if_pos h5)
theorem f_Mo_isData_e1 (k : Int32)  (h5 : ¬ (k &&& (k - (1 : Int32))) = 0) : f_Mo_isData k = ((1 : Int32)) := by
  exact (if_neg h5)
set_option maxHeartbeats 4000000 in
set_option maxRecDepth 100000 in
theorem c_Mo_isData (l : Launch) (D : va_G) (cI cL : ClassId) (sz : Nat)  (k : Int32)  : Met l y_Mo_isData w_Mo_isData ({ frames := 0, cells := 0, slots := 0, locals := 0 }) (va_Pc [.int k] (PW D cI cL [] sz)) (q_Mo_isData D cI cL (va_A [] sz)  (f_Mo_isData k)) 0 0 (va_A [] sz) := by
  refine mk_met (Qf := fun A => q_Mo_isData D cI cL A  (f_Mo_isData k)) (by decide) (Nat.le_of_ble_eq_true rfl) ?_
  intro p e s m below meth c A ls hx hb hr hlocks hml hown hg hK hN hT hA hP hD hS hnm hl
  refine lv_iload_n hx hb d_Mo_isData_0 rfl (lv_at hl 0 rfl) ?_
  refine lv_iload_n hx hb d_Mo_isData_1 rfl (lv_at hl 0 rfl) ?_
  refine lv_iconst (v := 1) hx hb d_Mo_isData_2 (by decide) ?_
  refine lv_isub hx hb d_Mo_isData_3 ?_
  refine lv_iand hx hb d_Mo_isData_4 ?_
  refine lv_if_eq (tgt := 12) hx hb d_Mo_isData_5 (by decide) (fun h5 => ?_) (fun h5 => ?_)
  · refine lv_iconst (v := 0) hx hb d_Mo_isData_12 (by decide) ?_
    rw [f_Mo_isData_e0 k h5]
    exact W.zret hx hb hr rfl (fun t ht hW => ⟨⟨_, (), rfl, rfl, by show va_P D classes _ t.heap; rw [ht]; exact hP⟩, hS.F ht⟩) hS.2.2 d_Mo_isData_13 hlocks
  · refine lv_iconst (v := 1) hx hb d_Mo_isData_8 (by decide) ?_
    refine lv_goto (tgt := 13) hx hb d_Mo_isData_9 (by decide) ?_
    rw [f_Mo_isData_e1 k h5]
    exact W.zret hx hb hr rfl (fun t ht hW => ⟨⟨_, (), rfl, rfl, by show va_P D classes _ t.heap; rw [ht]; exact hP⟩, hS.F ht⟩) hS.2.2 d_Mo_isData_13 hlocks
abbrev q_Mo_syndrome (D : va_G) (cI cL : ClassId) (A : Nat → Prop)  (F : Int32) : Array Value → State → Outcome → State → Prop := va_Qi (fun r (_ : Unit) => r = F) (fun _ t => va_P D classes [] t.heap) A
theorem f_Mo_syndrome_e1 (x : Int64) (n : Nat) (j : Nat) (sy : Int32)  (h17 : ¬ (lg_cmp ((u_lshr x (nI j)) &&& (1 : Int64)) (1 : Int64)) = 0) : f_Mo_syndrome_l4 x (n + 1) j sy = f_Mo_syndrome_l4 x n (j + 1) sy := by
  exact (if_neg h17)
theorem f_Mo_syndrome_e2 (x : Int64) (n : Nat) (j : Nat) (sy : Int32)  (h17 : (lg_cmp ((u_lshr x (nI j)) &&& (1 : Int64)) (1 : Int64)) = 0) : f_Mo_syndrome_l4 x (n + 1) j sy = f_Mo_syndrome_l4 x n (j + 1) (sy ^^^ (nI j)) := by
  exact (if_pos h17)
set_option maxHeartbeats 4000000 in
set_option maxRecDepth 100000 in
theorem c_Mo_syndrome (l : Launch) (D : va_G) (cI cL : ClassId) (sz : Nat)  (x : Int64)  : Met l y_Mo_syndrome w_Mo_syndrome ({ frames := 0, cells := 0, slots := 0, locals := 0 }) (va_Pc [.long x] (PW D cI cL [] sz)) (q_Mo_syndrome D cI cL (va_A [] sz)  (f_Mo_syndrome x)) 0 0 (va_A [] sz) := by
  refine mk_met (Qf := fun A => q_Mo_syndrome D cI cL A  (f_Mo_syndrome x)) (by decide) (Nat.le_of_ble_eq_true rfl) ?_
  intro p e s m below meth c A ls hx hb hr hlocks hml hown hg hK hN hT hA hP hD hS hnm hl
  refine lv_iconst (v := 0) hx hb d_Mo_syndrome_0 (by decide) ?_
  refine lv_istore_n (lv' := [(2, .int _), (0, .long _)]) hx hb d_Mo_syndrome_1 rfl hl (by decide) rfl (fun ls hl => ?_)
  refine lv_iconst (v := 1) hx hb d_Mo_syndrome_2 (by decide) ?_
  refine lv_istore_n (lv' := [(3, .int _), (2, .int _), (0, .long _)]) hx hb d_Mo_syndrome_3 rfl hl (by decide) rfl (fun ls hl => ?_)
  have loop : ∀ (n j : Nat) (sy : Int32) (ls : Array Slot) (H : Heap) (locs : List Loc), j + n = 39 → lv_has ls 4 [(3, .int (nI j)), (2, .int sy), (0, .long x)] → va_P D classes [] H → va_D A [] → va_S A s.heap H locs → W p l e ({ frames := 0, cells := 0, slots := 0, locals := 0 } : Room) s m ([.long x] : List Value).toArray below meth c H locs 0 0 (MQ below (q_Mo_syndrome D cI cL A  (f_Mo_syndrome_l4 x n j sy)) ([.long x] : List Value).toArray s 0 0 A) (F0 m 4 ls []) := by
    intro n
    induction n with
    | zero =>
      intro j sy ls H locs hj  hl hP hD hS
      refine lv_iload_n hx hb d_Mo_syndrome_4 rfl (lv_at hl 0 rfl) ?_
      refine lv_bipush (v := 39) hx hb d_Mo_syndrome_5 (by decide) ?_
      refine lv_icmp_ge (tgt := 34) hx hb d_Mo_syndrome_7 (by decide) (fun _ => ?_) (fun h => absurd (show nI 39 ≤ nI j from nI_le (by omega) (by omega)) h)
      refine lv_iload_n hx hb d_Mo_syndrome_34 rfl (lv_at hl 1 rfl) ?_
      exact W.iret hx hb hr (fun t ht hW => ⟨⟨_, (), rfl, rfl, by show va_P D classes _ t.heap; rw [ht]; exact hP⟩, hS.F ht⟩) hS.2.2 d_Mo_syndrome_35 hlocks
    | succ n ih =>
      intro j sy ls H locs hj  hl hP hD hS
      refine lv_iload_n hx hb d_Mo_syndrome_4 rfl (lv_at hl 0 rfl) ?_
      refine lv_bipush (v := 39) hx hb d_Mo_syndrome_5 (by decide) ?_
      refine lv_icmp_ge (tgt := 34) hx hb d_Mo_syndrome_7 (by decide) (fun h => absurd h (show ¬ nI 39 ≤ nI j from nI_ge (by omega) (by decide))) (fun _ => ?_)
      refine lv_lload_n hx hb d_Mo_syndrome_10 rfl (lv_at hl 2 rfl) ?_
      refine lv_iload_n hx hb d_Mo_syndrome_11 rfl (lv_at hl 0 rfl) ?_
      refine lv_lshr (v := u_lshr _ _) hx hb d_Mo_syndrome_12 rfl ?_
      refine lv_lconst (v := 1) hx hb d_Mo_syndrome_13 (by decide) ?_
      refine lv_land hx hb d_Mo_syndrome_14 ?_
      refine lv_lconst (v := 1) hx hb d_Mo_syndrome_15 (by decide) ?_
      refine W.lcmp hx hb d_Mo_syndrome_16 ?_
      refine lv_if_ne (tgt := 26) hx hb d_Mo_syndrome_17 (by decide) (fun h17 => ?_) (fun h17 => ?_)
      · refine lv_iload_n hx hb d_Mo_syndrome_26 rfl (lv_at hl 1 rfl) ?_
        refine lv_istore_n (lv' := [(2, .int _), (3, .int _), (0, .long _)]) hx hb d_Mo_syndrome_27 rfl hl (by decide) rfl (fun ls hl => ?_)
        refine lv_iinc (k := 1) (v := nI (_ + 1)) (lv' := [(3, .int _), (2, .int _), (0, .long _)]) hx hb d_Mo_syndrome_28 hl rfl (nI_1 _) (by decide) rfl (fun ls hl => ?_)
        refine lv_goto (tgt := 4) hx hb d_Mo_syndrome_31 (by decide) ?_
        rw [f_Mo_syndrome_e1 x (n) j sy h17]
        exact ih (j + 1) _ _ _ _ (by omega)  (lv_sub hl [0, 1, 2] rfl) hP hD hS
      · refine lv_iload_n hx hb d_Mo_syndrome_20 rfl (lv_at hl 1 rfl) ?_
        refine lv_iload_n hx hb d_Mo_syndrome_21 rfl (lv_at hl 0 rfl) ?_
        refine lv_ixor hx hb d_Mo_syndrome_22 ?_
        refine lv_goto (tgt := 27) hx hb d_Mo_syndrome_23 (by decide) ?_
        refine lv_istore_n (lv' := [(2, .int _), (3, .int _), (0, .long _)]) hx hb d_Mo_syndrome_27 rfl hl (by decide) rfl (fun ls hl => ?_)
        refine lv_iinc (k := 1) (v := nI (_ + 1)) (lv' := [(3, .int _), (2, .int _), (0, .long _)]) hx hb d_Mo_syndrome_28 hl rfl (nI_1 _) (by decide) rfl (fun ls hl => ?_)
        refine lv_goto (tgt := 4) hx hb d_Mo_syndrome_31 (by decide) ?_
        rw [f_Mo_syndrome_e2 x (n) j sy h17]
        exact ih (j + 1) _ _ _ _ (by omega)  (lv_sub hl [0, 1, 2] rfl) hP hD hS
  exact loop 38 1 _ _ _ _ (by omega)  hl hP hD hS
abbrev q_Mo_isOdd (D : va_G) (cI cL : ClassId) (A : Nat → Prop)  (F : Int32) : Array Value → State → Outcome → State → Prop := va_Qi (fun r (_ : Unit) => r = F) (fun _ t => va_P D classes [] t.heap) A
theorem f_Mo_isOdd_e1 (x : Int64) (n : Nat) (j : Nat) (o : Int32)  (h18 : ¬ (lg_cmp ((u_lshr x (nI j)) &&& (1 : Int64)) (1 : Int64)) = 0) (h26 : o = (0 : Int32)) : f_Mo_isOdd_l4 x (n + 1) j o = f_Mo_isOdd_l4 x n (j + 1) (0 : Int32) := by
  exact ((if_neg h18).trans (if_pos h26))
theorem f_Mo_isOdd_e2 (x : Int64) (n : Nat) (j : Nat) (o : Int32)  (h18 : ¬ (lg_cmp ((u_lshr x (nI j)) &&& (1 : Int64)) (1 : Int64)) = 0) (h26 : ¬ o = (0 : Int32)) : f_Mo_isOdd_l4 x (n + 1) j o = f_Mo_isOdd_l4 x n (j + 1) (1 : Int32) := by
  exact ((if_neg h18).trans (if_neg h26))
theorem f_Mo_isOdd_e3 (x : Int64) (n : Nat) (j : Nat) (o : Int32)  (h18 : (lg_cmp ((u_lshr x (nI j)) &&& (1 : Int64)) (1 : Int64)) = 0) (h26 : o = (1 : Int32)) : f_Mo_isOdd_l4 x (n + 1) j o = f_Mo_isOdd_l4 x n (j + 1) (0 : Int32) := by
  exact ((if_pos h18).trans (if_pos h26))
theorem f_Mo_isOdd_e4 (x : Int64) (n : Nat) (j : Nat) (o : Int32)  (h18 : (lg_cmp ((u_lshr x (nI j)) &&& (1 : Int64)) (1 : Int64)) = 0) (h26 : ¬ o = (1 : Int32)) : f_Mo_isOdd_l4 x (n + 1) j o = f_Mo_isOdd_l4 x n (j + 1) (1 : Int32) := by
  exact ((if_pos h18).trans (if_neg h26))
set_option maxHeartbeats 4000000 in
set_option maxRecDepth 100000 in
theorem c_Mo_isOdd (l : Launch) (D : va_G) (cI cL : ClassId) (sz : Nat)  (x : Int64)  : Met l y_Mo_isOdd w_Mo_isOdd ({ frames := 0, cells := 0, slots := 0, locals := 0 }) (va_Pc [.long x] (PW D cI cL [] sz)) (q_Mo_isOdd D cI cL (va_A [] sz)  (f_Mo_isOdd x)) 0 0 (va_A [] sz) := by
  refine mk_met (Qf := fun A => q_Mo_isOdd D cI cL A  (f_Mo_isOdd x)) (by decide) (Nat.le_of_ble_eq_true rfl) ?_
  intro p e s m below meth c A ls hx hb hr hlocks hml hown hg hK hN hT hA hP hD hS hnm hl
  refine lv_iconst (v := 0) hx hb d_Mo_isOdd_0 (by decide) ?_
  refine lv_istore_n (lv' := [(2, .int _), (0, .long _)]) hx hb d_Mo_isOdd_1 rfl hl (by decide) rfl (fun ls hl => ?_)
  refine lv_iconst (v := 0) hx hb d_Mo_isOdd_2 (by decide) ?_
  refine lv_istore_n (lv' := [(3, .int _), (2, .int _), (0, .long _)]) hx hb d_Mo_isOdd_3 rfl hl (by decide) rfl (fun ls hl => ?_)
  have loop : ∀ (n j : Nat) (o : Int32) (ls : Array Slot) (H : Heap) (locs : List Loc), j + n = 39 → (o = 0 ∨ o = 1) → lv_has ls 4 [(3, .int (nI j)), (2, .int o), (0, .long x)] → va_P D classes [] H → va_D A [] → va_S A s.heap H locs → W p l e ({ frames := 0, cells := 0, slots := 0, locals := 0 } : Room) s m ([.long x] : List Value).toArray below meth c H locs 0 0 (MQ below (q_Mo_isOdd D cI cL A  (f_Mo_isOdd_l4 x n j o)) ([.long x] : List Value).toArray s 0 0 A) (F0 m 4 ls []) := by
    intro n
    induction n with
    | zero =>
      intro j o ls H locs hj ho hl hP hD hS
      refine lv_iload_n hx hb d_Mo_isOdd_4 rfl (lv_at hl 0 rfl) ?_
      refine lv_bipush (v := 39) hx hb d_Mo_isOdd_5 (by decide) ?_
      refine lv_icmp_ge (tgt := 41) hx hb d_Mo_isOdd_7 (by decide) (fun _ => ?_) (fun h => absurd (show nI 39 ≤ nI j from nI_le (by omega) (by omega)) h)
      refine lv_iload_n hx hb d_Mo_isOdd_41 rfl (lv_at hl 1 rfl) ?_
      exact W.zret hx hb hr (by rcases ho with rfl | rfl <;> rfl) (fun t ht hW => ⟨⟨_, (), rfl, rfl, by show va_P D classes _ t.heap; rw [ht]; exact hP⟩, hS.F ht⟩) hS.2.2 d_Mo_isOdd_42 hlocks
    | succ n ih =>
      intro j o ls H locs hj ho hl hP hD hS
      refine lv_iload_n hx hb d_Mo_isOdd_4 rfl (lv_at hl 0 rfl) ?_
      refine lv_bipush (v := 39) hx hb d_Mo_isOdd_5 (by decide) ?_
      refine lv_icmp_ge (tgt := 41) hx hb d_Mo_isOdd_7 (by decide) (fun h => absurd h (show ¬ nI 39 ≤ nI j from nI_ge (by omega) (by decide))) (fun _ => ?_)
      refine lv_iload_n hx hb d_Mo_isOdd_10 rfl (lv_at hl 1 rfl) ?_
      refine lv_lload_n hx hb d_Mo_isOdd_11 rfl (lv_at hl 2 rfl) ?_
      refine lv_iload_n hx hb d_Mo_isOdd_12 rfl (lv_at hl 0 rfl) ?_
      refine lv_lshr (v := u_lshr _ _) hx hb d_Mo_isOdd_13 rfl ?_
      refine lv_lconst (v := 1) hx hb d_Mo_isOdd_14 (by decide) ?_
      refine lv_land hx hb d_Mo_isOdd_15 ?_
      refine lv_lconst (v := 1) hx hb d_Mo_isOdd_16 (by decide) ?_
      refine W.lcmp hx hb d_Mo_isOdd_17 ?_
      refine lv_if_ne (tgt := 25) hx hb d_Mo_isOdd_18 (by decide) (fun h18 => ?_) (fun h18 => ?_)
      · refine lv_iconst (v := 0) hx hb d_Mo_isOdd_25 (by decide) ?_
        refine lv_icmp_eq (tgt := 33) hx hb d_Mo_isOdd_26 (by decide) (fun h26 => ?_) (fun h26 => ?_)
        · refine lv_iconst (v := 0) hx hb d_Mo_isOdd_33 (by decide) ?_
          refine lv_istore_n (lv' := [(2, .int _), (3, .int _), (0, .long _)]) hx hb d_Mo_isOdd_34 rfl hl (by decide) rfl (fun ls hl => ?_)
          refine lv_iinc (k := 1) (v := nI (_ + 1)) (lv' := [(3, .int _), (2, .int _), (0, .long _)]) hx hb d_Mo_isOdd_35 hl rfl (nI_1 _) (by decide) rfl (fun ls hl => ?_)
          refine lv_goto (tgt := 4) hx hb d_Mo_isOdd_38 (by decide) ?_
          rw [f_Mo_isOdd_e1 x (n) j o h18 h26]
          exact ih (j + 1) _ _ _ _ (by omega) (by first | exact Or.inl rfl | exact Or.inr rfl) (lv_sub hl [0, 1, 2] rfl) hP hD hS
        · refine lv_iconst (v := 1) hx hb d_Mo_isOdd_29 (by decide) ?_
          refine lv_goto (tgt := 34) hx hb d_Mo_isOdd_30 (by decide) ?_
          refine lv_istore_n (lv' := [(2, .int _), (3, .int _), (0, .long _)]) hx hb d_Mo_isOdd_34 rfl hl (by decide) rfl (fun ls hl => ?_)
          refine lv_iinc (k := 1) (v := nI (_ + 1)) (lv' := [(3, .int _), (2, .int _), (0, .long _)]) hx hb d_Mo_isOdd_35 hl rfl (nI_1 _) (by decide) rfl (fun ls hl => ?_)
          refine lv_goto (tgt := 4) hx hb d_Mo_isOdd_38 (by decide) ?_
          rw [f_Mo_isOdd_e2 x (n) j o h18 h26]
          exact ih (j + 1) _ _ _ _ (by omega) (by first | exact Or.inl rfl | exact Or.inr rfl) (lv_sub hl [0, 1, 2] rfl) hP hD hS
      · refine lv_iconst (v := 1) hx hb d_Mo_isOdd_21 (by decide) ?_
        refine lv_goto (tgt := 26) hx hb d_Mo_isOdd_22 (by decide) ?_
        refine lv_icmp_eq (tgt := 33) hx hb d_Mo_isOdd_26 (by decide) (fun h26 => ?_) (fun h26 => ?_)
        · refine lv_iconst (v := 0) hx hb d_Mo_isOdd_33 (by decide) ?_
          refine lv_istore_n (lv' := [(2, .int _), (3, .int _), (0, .long _)]) hx hb d_Mo_isOdd_34 rfl hl (by decide) rfl (fun ls hl => ?_)
          refine lv_iinc (k := 1) (v := nI (_ + 1)) (lv' := [(3, .int _), (2, .int _), (0, .long _)]) hx hb d_Mo_isOdd_35 hl rfl (nI_1 _) (by decide) rfl (fun ls hl => ?_)
          refine lv_goto (tgt := 4) hx hb d_Mo_isOdd_38 (by decide) ?_
          rw [f_Mo_isOdd_e3 x (n) j o h18 h26]
          exact ih (j + 1) _ _ _ _ (by omega) (by first | exact Or.inl rfl | exact Or.inr rfl) (lv_sub hl [0, 1, 2] rfl) hP hD hS
        · refine lv_iconst (v := 1) hx hb d_Mo_isOdd_29 (by decide) ?_
          refine lv_goto (tgt := 34) hx hb d_Mo_isOdd_30 (by decide) ?_
          refine lv_istore_n (lv' := [(2, .int _), (3, .int _), (0, .long _)]) hx hb d_Mo_isOdd_34 rfl hl (by decide) rfl (fun ls hl => ?_)
          refine lv_iinc (k := 1) (v := nI (_ + 1)) (lv' := [(3, .int _), (2, .int _), (0, .long _)]) hx hb d_Mo_isOdd_35 hl rfl (nI_1 _) (by decide) rfl (fun ls hl => ?_)
          refine lv_goto (tgt := 4) hx hb d_Mo_isOdd_38 (by decide) ?_
          rw [f_Mo_isOdd_e4 x (n) j o h18 h26]
          exact ih (j + 1) _ _ _ _ (by omega) (by first | exact Or.inl rfl | exact Or.inr rfl) (lv_sub hl [0, 1, 2] rfl) hP hD hS
  exact loop 39 0 _ _ _ _ (by omega) (Or.inl rfl) hl hP hD hS
abbrev q_Mo_dataOf (D : va_G) (cI cL : ClassId) (A : Nat → Prop)  (F : Int32) : Array Value → State → Outcome → State → Prop := va_Qi (fun r (_ : Unit) => r = F) (fun _ t => va_P D classes [] t.heap) A
theorem f_Mo_dataOf_e1 (x : Int64) (n : Nat) (j : Nat) (v_ : Int32) (i_ : Int32)  (h19 : (f_Mo_isData (nI j)) = 0) : f_Mo_dataOf_l7 x (n + 1) j v_ i_ = f_Mo_dataOf_l7 x n (j + 1) v_ i_ := by
  exact (if_pos h19)
theorem f_Mo_dataOf_e2 (x : Int64) (n : Nat) (j : Nat) (v_ : Int32) (i_ : Int32)  (h19 : ¬ (f_Mo_isData (nI j)) = 0) (h30 : ¬ (lg_cmp ((u_lshr x (nI j)) &&& (1 : Int64)) (1 : Int64)) = 0) : f_Mo_dataOf_l7 x (n + 1) j v_ i_ = f_Mo_dataOf_l7 x n (j + 1) v_ (i_ + 1) := by
  exact ((if_neg h19).trans (if_neg h30))
theorem f_Mo_dataOf_e3 (x : Int64) (n : Nat) (j : Nat) (v_ : Int32) (i_ : Int32)  (h19 : ¬ (f_Mo_isData (nI j)) = 0) (h30 : (lg_cmp ((u_lshr x (nI j)) &&& (1 : Int64)) (1 : Int64)) = 0) : f_Mo_dataOf_l7 x (n + 1) j v_ i_ = f_Mo_dataOf_l7 x n (j + 1) (v_ ||| ((1 : Int32) <<< (i_ &&& 31))) (i_ + 1) := by
  exact ((if_neg h19).trans (if_pos h30))
set_option maxHeartbeats 4000000 in
set_option maxRecDepth 100000 in
theorem c_Mo_dataOf (l : Launch) (D : va_G) (cI cL : ClassId) (sz : Nat)  (x : Int64)  : Met l y_Mo_dataOf w_Mo_dataOf ({ frames := 1, cells := 0, slots := 0, locals := 20 }) (va_Pc [.long x] (PW D cI cL [] sz)) (q_Mo_dataOf D cI cL (va_A [] sz)  (f_Mo_dataOf x)) 0 0 (va_A [] sz) := by
  refine mk_met (Qf := fun A => q_Mo_dataOf D cI cL A  (f_Mo_dataOf x)) (by decide) (Nat.le_of_ble_eq_true rfl) ?_
  intro p e s m below meth c A ls hx hb hr hlocks hml hown hg hK hN hT hA hP hD hS hnm hl
  refine lv_iconst (v := 0) hx hb d_Mo_dataOf_0 (by decide) ?_
  refine lv_istore_n (lv' := [(2, .int _), (0, .long _)]) hx hb d_Mo_dataOf_1 rfl hl (by decide) rfl (fun ls hl => ?_)
  refine lv_iconst (v := 0) hx hb d_Mo_dataOf_2 (by decide) ?_
  refine lv_istore_n (lv' := [(3, .int _), (2, .int _), (0, .long _)]) hx hb d_Mo_dataOf_3 rfl hl (by decide) rfl (fun ls hl => ?_)
  refine lv_iconst (v := 3) hx hb d_Mo_dataOf_4 (by decide) ?_
  refine lv_istore (lv' := [(4, .int _), (3, .int _), (2, .int _), (0, .long _)]) hx hb d_Mo_dataOf_5 hl (by decide) rfl (fun ls hl => ?_)
  have loop : ∀ (n j : Nat) (v_ : Int32) (i_ : Int32) (ls : Array Slot) (H : Heap) (locs : List Loc), j + n = 39 → lv_has ls 5 [(4, .int (nI j)), (3, .int i_), (2, .int v_), (0, .long x)] → va_P D classes [] H → va_D A [] → va_S A s.heap H locs → W p l e ({ frames := 1, cells := 0, slots := 0, locals := 20 } : Room) s m ([.long x] : List Value).toArray below meth c H locs 0 0 (MQ below (q_Mo_dataOf D cI cL A  (f_Mo_dataOf_l7 x n j v_ i_)) ([.long x] : List Value).toArray s 0 0 A) (F0 m 7 ls []) := by
    intro n
    induction n with
    | zero =>
      intro j v_ i_ ls H locs hj  hl hP hD hS
      refine lv_iload hx hb d_Mo_dataOf_7 (lv_at hl 0 rfl) ?_
      refine lv_bipush (v := 39) hx hb d_Mo_dataOf_9 (by decide) ?_
      refine lv_icmp_ge (tgt := 52) hx hb d_Mo_dataOf_11 (by decide) (fun _ => ?_) (fun h => absurd (show nI 39 ≤ nI j from nI_le (by omega) (by omega)) h)
      refine lv_iload_n hx hb d_Mo_dataOf_52 rfl (lv_at hl 2 rfl) ?_
      exact W.iret hx hb hr (fun t ht hW => ⟨⟨_, (), rfl, rfl, by show va_P D classes _ t.heap; rw [ht]; exact hP⟩, hS.F ht⟩) hS.2.2 d_Mo_dataOf_53 hlocks
    | succ n ih =>
      intro j v_ i_ ls H locs hj  hl hP hD hS
      refine lv_iload hx hb d_Mo_dataOf_7 (lv_at hl 0 rfl) ?_
      refine lv_bipush (v := 39) hx hb d_Mo_dataOf_9 (by decide) ?_
      refine lv_icmp_ge (tgt := 52) hx hb d_Mo_dataOf_11 (by decide) (fun h => absurd h (show ¬ nI 39 ≤ nI j from nI_ge (by omega) (by decide))) (fun _ => ?_)
      refine lv_iload hx hb d_Mo_dataOf_14 (lv_at hl 0 rfl) ?_
      refine cj_i (wc := []) (w1 := []) hP hD hS hA [] rfl [] rfl rfl (va_runS (rest := []) ⟨hx, hb, hml, hown, hg⟩ (c_Mo_isData l D cI cL  _ (nI j)) ⟨callB_of 1 hg (gw_good m_623) rfl rfl rfl (hg _ m_71) (hg _ m_621) hd_Mo_isData ⟨Nat.le_of_ble_eq_true rfl, Nat.le_of_ble_eq_true rfl⟩, hg _ m_622⟩ (pw_S hK hN hT hA hP hD hS [] rfl (by decide)) rfl rfl hl.1 rfl (lv_room (Nat.le_of_ble_eq_true rfl)) d_Mo_dataOf_16 ⟨Nat.le_of_ble_eq_true rfl, Nat.le_of_ble_eq_true rfl⟩) (fun H locs hP hD hS => ?_)
      have hP : va_P D classes [] H := hP
      have hD : va_D A [] := hD
      refine lv_if_eq (tgt := 46) hx hb d_Mo_dataOf_19 (by decide) (fun h19 => ?_) (fun h19 => ?_)
      · refine lv_iinc (k := 0) (v := nI (_ + 1)) (lv' := [(4, .int _), (3, .int _), (2, .int _), (0, .long _)]) hx hb d_Mo_dataOf_46 hl rfl (nI_1 _) (by decide) rfl (fun ls hl => ?_)
        refine lv_goto (tgt := 7) hx hb d_Mo_dataOf_49 (by decide) ?_
        rw [f_Mo_dataOf_e1 x (n) j v_ i_ h19]
        exact ih (j + 1) _ _ _ _ _ (by omega)  (lv_sub hl [0, 1, 2, 3] rfl) hP hD hS
      · refine lv_lload_n hx hb d_Mo_dataOf_22 rfl (lv_at hl 3 rfl) ?_
        refine lv_iload hx hb d_Mo_dataOf_23 (lv_at hl 0 rfl) ?_
        refine lv_lshr (v := u_lshr _ _) hx hb d_Mo_dataOf_25 rfl ?_
        refine lv_lconst (v := 1) hx hb d_Mo_dataOf_26 (by decide) ?_
        refine lv_land hx hb d_Mo_dataOf_27 ?_
        refine lv_lconst (v := 1) hx hb d_Mo_dataOf_28 (by decide) ?_
        refine W.lcmp hx hb d_Mo_dataOf_29 ?_
        refine lv_if_ne (tgt := 41) hx hb d_Mo_dataOf_30 (by decide) (fun h30 => ?_) (fun h30 => ?_)
        · refine lv_iload_n hx hb d_Mo_dataOf_41 rfl (lv_at hl 2 rfl) ?_
          refine lv_istore_n (lv' := [(2, .int _), (4, .int _), (3, .int _), (0, .long _)]) hx hb d_Mo_dataOf_42 rfl hl (by decide) rfl (fun ls hl => ?_)
          refine lv_iinc (k := 2) (v := _ + 1) (lv' := [(3, .int _), (2, .int _), (4, .int _), (0, .long _)]) hx hb d_Mo_dataOf_43 hl rfl rfl (by decide) rfl (fun ls hl => ?_)
          refine lv_iinc (k := 2) (v := nI (_ + 1)) (lv' := [(4, .int _), (3, .int _), (2, .int _), (0, .long _)]) hx hb d_Mo_dataOf_46 hl rfl (nI_1 _) (by decide) rfl (fun ls hl => ?_)
          refine lv_goto (tgt := 7) hx hb d_Mo_dataOf_49 (by decide) ?_
          rw [f_Mo_dataOf_e2 x (n) j v_ i_ h19 h30]
          exact ih (j + 1) _ _ _ _ _ (by omega)  (lv_sub hl [0, 1, 2, 3] rfl) hP hD hS
        · refine lv_iload_n hx hb d_Mo_dataOf_33 rfl (lv_at hl 2 rfl) ?_
          refine lv_iconst (v := 1) hx hb d_Mo_dataOf_34 (by decide) ?_
          refine lv_iload_n hx hb d_Mo_dataOf_35 rfl (lv_at hl 1 rfl) ?_
          refine lv_ishl hx hb d_Mo_dataOf_36 ?_
          refine lv_ior hx hb d_Mo_dataOf_37 ?_
          refine lv_goto (tgt := 42) hx hb d_Mo_dataOf_38 (by decide) ?_
          refine lv_istore_n (lv' := [(2, .int _), (4, .int _), (3, .int _), (0, .long _)]) hx hb d_Mo_dataOf_42 rfl hl (by decide) rfl (fun ls hl => ?_)
          refine lv_iinc (k := 2) (v := _ + 1) (lv' := [(3, .int _), (2, .int _), (4, .int _), (0, .long _)]) hx hb d_Mo_dataOf_43 hl rfl rfl (by decide) rfl (fun ls hl => ?_)
          refine lv_iinc (k := 2) (v := nI (_ + 1)) (lv' := [(4, .int _), (3, .int _), (2, .int _), (0, .long _)]) hx hb d_Mo_dataOf_46 hl rfl (nI_1 _) (by decide) rfl (fun ls hl => ?_)
          refine lv_goto (tgt := 7) hx hb d_Mo_dataOf_49 (by decide) ?_
          rw [f_Mo_dataOf_e3 x (n) j v_ i_ h19 h30]
          exact ih (j + 1) _ _ _ _ _ (by omega)  (lv_sub hl [0, 1, 2, 3] rfl) hP hD hS
  exact loop 36 3 _ _ _ _ _ (by omega)  hl hP hD hS
abbrev q_Mo_encoded (D : va_G) (cI cL : ClassId) (A : Nat → Prop)  (F : Int64) : Array Value → State → Outcome → State → Prop := va_Ql (fun r (_ : Unit) => r = F) (fun _ t => va_P D classes [] t.heap) A
theorem f_Mo_encoded_e0 (j2 : Nat) (b2 : Int64) (sy : Int32)  (h101 : (f_Mo_isOdd b2) = 0) : f_Mo_encoded_l60 0 j2 b2 sy = (b2) := by
  exact (if_pos h101)
theorem f_Mo_encoded_e1 (j2 : Nat) (b2 : Int64) (sy : Int32)  (h101 : ¬ (f_Mo_isOdd b2) = 0) : f_Mo_encoded_l60 0 j2 b2 sy = ((b2 ||| (1 : Int64))) := by
  exact (if_neg h101)
theorem f_Mo_encoded_e2 (n : Nat) (j2 : Nat) (b2 : Int64) (sy : Int32)  (h75 : ¬ ((sy >>> ((nI j2) &&& 31)) &&& (1 : Int32)) = (1 : Int32)) : f_Mo_encoded_l60 (n + 1) j2 b2 sy = f_Mo_encoded_l60  n (j2 + 1) b2 sy := by
  exact (if_neg h75)
theorem f_Mo_encoded_e3 (n : Nat) (j2 : Nat) (b2 : Int64) (sy : Int32)  (h75 : ((sy >>> ((nI j2) &&& 31)) &&& (1 : Int32)) = (1 : Int32)) : f_Mo_encoded_l60 (n + 1) j2 b2 sy = f_Mo_encoded_l60  n (j2 + 1) (b2 ||| (u_lshl (1 : Int64) ((1 : Int32) <<< ((nI j2) &&& 31)))) sy := by
  exact (if_pos h75)
theorem f_Mo_encoded_e5 (v : Int32) (n : Nat) (j : Nat) (b_ : Int64) (i_ : Int32)  (h19 : (f_Mo_isData (nI j)) = 0) : f_Mo_encoded_l7 v (n + 1) j b_ i_ = f_Mo_encoded_l7 v n (j + 1) b_ i_ := by
  exact (if_pos h19)
theorem f_Mo_encoded_e6 (v : Int32) (n : Nat) (j : Nat) (b_ : Int64) (i_ : Int32)  (h19 : ¬ (f_Mo_isData (nI j)) = 0) (h28 : ¬ ((v >>> (i_ &&& 31)) &&& (1 : Int32)) = (1 : Int32)) : f_Mo_encoded_l7 v (n + 1) j b_ i_ = f_Mo_encoded_l7 v n (j + 1) b_ (i_ + 1) := by
  exact ((if_neg h19).trans (if_neg h28))
theorem f_Mo_encoded_e7 (v : Int32) (n : Nat) (j : Nat) (b_ : Int64) (i_ : Int32)  (h19 : ¬ (f_Mo_isData (nI j)) = 0) (h28 : ((v >>> (i_ &&& 31)) &&& (1 : Int32)) = (1 : Int32)) : f_Mo_encoded_l7 v (n + 1) j b_ i_ = f_Mo_encoded_l7 v n (j + 1) (b_ ||| (u_lshl (1 : Int64) (nI j))) (i_ + 1) := by
  exact ((if_neg h19).trans (if_pos h28))
set_option maxHeartbeats 4000000 in
set_option maxRecDepth 100000 in
theorem c_Mo_encoded (l : Launch) (D : va_G) (cI cL : ClassId) (sz : Nat)  (v : Int32)  : Met l y_Mo_encoded w_Mo_encoded ({ frames := 1, cells := 0, slots := 0, locals := 23 }) (va_Pc [.int v] (PW D cI cL [] sz)) (q_Mo_encoded D cI cL (va_A [] sz)  (f_Mo_encoded v)) 0 0 (va_A [] sz) := by
  refine mk_met (Qf := fun A => q_Mo_encoded D cI cL A  (f_Mo_encoded v)) (by decide) (Nat.le_of_ble_eq_true rfl) ?_
  intro p e s m below meth c A ls hx hb hr hlocks hml hown hg hK hN hT hA hP hD hS hnm hl
  refine lv_lconst (v := 0) hx hb d_Mo_encoded_0 (by decide) ?_
  refine lv_lstore_n (lv' := [(1, .long _), (0, .int _)]) hx hb d_Mo_encoded_1 rfl hl (by decide) rfl (fun ls hl => ?_)
  refine lv_iconst (v := 0) hx hb d_Mo_encoded_2 (by decide) ?_
  refine lv_istore_n (lv' := [(3, .int _), (1, .long _), (0, .int _)]) hx hb d_Mo_encoded_3 rfl hl (by decide) rfl (fun ls hl => ?_)
  refine lv_iconst (v := 3) hx hb d_Mo_encoded_4 (by decide) ?_
  refine lv_istore (lv' := [(4, .int _), (3, .int _), (1, .long _), (0, .int _)]) hx hb d_Mo_encoded_5 hl (by decide) rfl (fun ls hl => ?_)
  have loop : ∀ (n j : Nat) (b_ : Int64) (i_ : Int32) (ls : Array Slot) (H : Heap) (locs : List Loc), j + n = 39 → lv_has ls 6 [(4, .int (nI j)), (3, .int i_), (1, .long b_), (0, .int v)] → va_P D classes [] H → va_D A [] → va_S A s.heap H locs → W p l e ({ frames := 1, cells := 0, slots := 0, locals := 23 } : Room) s m ([.int v] : List Value).toArray below meth c H locs 0 0 (MQ below (q_Mo_encoded D cI cL A  (f_Mo_encoded_l7 v n j b_ i_)) ([.int v] : List Value).toArray s 0 0 A) (F0 m 7 ls []) := by
    intro n
    induction n with
    | zero =>
      intro j b_ i_ ls H locs hj  hl hP hD hS
      refine lv_iload hx hb d_Mo_encoded_7 (lv_at hl 0 rfl) ?_
      refine lv_bipush (v := 39) hx hb d_Mo_encoded_9 (by decide) ?_
      refine lv_icmp_ge (tgt := 51) hx hb d_Mo_encoded_11 (by decide) (fun _ => ?_) (fun h => absurd (show nI 39 ≤ nI j from nI_le (by omega) (by omega)) h)
      refine lv_lload_n hx hb d_Mo_encoded_51 rfl (lv_at hl 2 rfl) ?_
      refine cj_i (wc := []) (w1 := []) hP hD hS hA [] rfl [] rfl rfl (va_runS (rest := []) ⟨hx, hb, hml, hown, hg⟩ (c_Mo_syndrome l D cI cL  _ b_) ⟨callB_of 1 hg (gw_good m_617) rfl rfl rfl (hg _ m_71) (hg _ m_615) hd_Mo_syndrome ⟨Nat.le_of_ble_eq_true rfl, Nat.le_of_ble_eq_true rfl⟩, hg _ m_616⟩ (pw_S hK hN hT hA hP hD hS [] rfl (by decide)) rfl rfl hl.1 rfl (lv_room (Nat.le_of_ble_eq_true rfl)) d_Mo_encoded_52 ⟨Nat.le_of_ble_eq_true rfl, Nat.le_of_ble_eq_true rfl⟩) (fun H locs hP hD hS => ?_)
      have hP : va_P D classes [] H := hP
      have hD : va_D A [] := hD
      refine lv_istore (lv' := [(4, .int _), (3, .int _), (1, .long _), (0, .int _)]) hx hb d_Mo_encoded_55 hl (by decide) rfl (fun ls hl => ?_)
      refine lv_iconst (v := 0) hx hb d_Mo_encoded_57 (by decide) ?_
      refine lv_istore (lv' := [(5, .int _), (4, .int _), (3, .int _), (1, .long _), (0, .int _)]) hx hb d_Mo_encoded_58 hl (by decide) rfl (fun ls hl => ?_)
      have loop : ∀ (n j2 : Nat) (b2 : Int64) (sy : Int32) (ls : Array Slot) (H : Heap) (locs : List Loc), j2 + n = 6 → lv_has ls 6 [(5, .int (nI j2)), (4, .int sy), (3, .int i_), (1, .long b2), (0, .int v)] → va_P D classes [] H → va_D A [] → va_S A s.heap H locs → W p l e ({ frames := 1, cells := 0, slots := 0, locals := 23 } : Room) s m ([.int v] : List Value).toArray below meth c H locs 0 0 (MQ below (q_Mo_encoded D cI cL A  (f_Mo_encoded_l60  n j2 b2 sy)) ([.int v] : List Value).toArray s 0 0 A) (F0 m 60 ls []) := by
        intro n
        induction n with
        | zero =>
          intro j2 b2 sy ls H locs hj  hl hP hD hS
          refine lv_iload hx hb d_Mo_encoded_60 (lv_at hl 0 rfl) ?_
          refine lv_bipush (v := 6) hx hb d_Mo_encoded_62 (by decide) ?_
          refine lv_icmp_ge (tgt := 97) hx hb d_Mo_encoded_64 (by decide) (fun _ => ?_) (fun h => absurd (show nI 6 ≤ nI j2 from nI_le (by omega) (by omega)) h)
          refine lv_lload_n hx hb d_Mo_encoded_97 rfl (lv_at hl 3 rfl) ?_
          refine cj_i (wc := []) (w1 := []) hP hD hS hA [] rfl [] rfl rfl (va_runS (rest := []) ⟨hx, hb, hml, hown, hg⟩ (c_Mo_isOdd l D cI cL  _ b2) ⟨callB_of 1 hg (gw_good m_606) rfl rfl rfl (hg _ m_71) (hg _ m_604) hd_Mo_isOdd ⟨Nat.le_of_ble_eq_true rfl, Nat.le_of_ble_eq_true rfl⟩, hg _ m_605⟩ (pw_S hK hN hT hA hP hD hS [] rfl (by decide)) rfl rfl hl.1 rfl (lv_room (Nat.le_of_ble_eq_true rfl)) d_Mo_encoded_98 ⟨Nat.le_of_ble_eq_true rfl, Nat.le_of_ble_eq_true rfl⟩) (fun H locs hP hD hS => ?_)
          have hP : va_P D classes [] H := hP
          have hD : va_D A [] := hD
          refine lv_if_eq (tgt := 110) hx hb d_Mo_encoded_101 (by decide) (fun h101 => ?_) (fun h101 => ?_)
          · refine lv_lload_n hx hb d_Mo_encoded_110 rfl (lv_at hl 3 rfl) ?_
            rw [f_Mo_encoded_e0 j2 b2 sy h101]
            exact W.lret hx hb hr (fun t ht hW => ⟨⟨_, (), rfl, rfl, by show va_P D classes _ t.heap; rw [ht]; exact hP⟩, hS.F ht⟩) hS.2.2 d_Mo_encoded_111 hlocks
          · refine lv_lload_n hx hb d_Mo_encoded_104 rfl (lv_at hl 3 rfl) ?_
            refine lv_lconst (v := 1) hx hb d_Mo_encoded_105 (by decide) ?_
            refine lv_lor hx hb d_Mo_encoded_106 ?_
            refine lv_goto (tgt := 111) hx hb d_Mo_encoded_107 (by decide) ?_
            rw [f_Mo_encoded_e1 j2 b2 sy h101]
            exact W.lret hx hb hr (fun t ht hW => ⟨⟨_, (), rfl, rfl, by show va_P D classes _ t.heap; rw [ht]; exact hP⟩, hS.F ht⟩) hS.2.2 d_Mo_encoded_111 hlocks
        | succ n ih =>
          intro j2 b2 sy ls H locs hj  hl hP hD hS
          refine lv_iload hx hb d_Mo_encoded_60 (lv_at hl 0 rfl) ?_
          refine lv_bipush (v := 6) hx hb d_Mo_encoded_62 (by decide) ?_
          refine lv_icmp_ge (tgt := 97) hx hb d_Mo_encoded_64 (by decide) (fun h => absurd h (show ¬ nI 6 ≤ nI j2 from nI_ge (by omega) (by decide))) (fun _ => ?_)
          refine lv_iload hx hb d_Mo_encoded_67 (lv_at hl 1 rfl) ?_
          refine lv_iload hx hb d_Mo_encoded_69 (lv_at hl 0 rfl) ?_
          refine lv_ishr hx hb d_Mo_encoded_71 ?_
          refine lv_iconst (v := 1) hx hb d_Mo_encoded_72 (by decide) ?_
          refine lv_iand hx hb d_Mo_encoded_73 ?_
          refine lv_iconst (v := 1) hx hb d_Mo_encoded_74 (by decide) ?_
          refine lv_icmp_ne (tgt := 89) hx hb d_Mo_encoded_75 (by decide) (fun h75 => ?_) (fun h75 => ?_)
          · refine lv_lload_n hx hb d_Mo_encoded_89 rfl (lv_at hl 3 rfl) ?_
            refine lv_lstore_n (lv' := [(1, .long _), (5, .int _), (4, .int _), (3, .int _), (0, .int _)]) hx hb d_Mo_encoded_90 rfl hl (by decide) rfl (fun ls hl => ?_)
            refine lv_iinc (k := 1) (v := nI (_ + 1)) (lv' := [(5, .int _), (1, .long _), (4, .int _), (3, .int _), (0, .int _)]) hx hb d_Mo_encoded_91 hl rfl (nI_1 _) (by decide) rfl (fun ls hl => ?_)
            refine lv_goto (tgt := 60) hx hb d_Mo_encoded_94 (by decide) ?_
            rw [f_Mo_encoded_e2 (n) j2 b2 sy h75]
            exact ih (j2 + 1) _ _ _ _ _ (by omega)  (lv_sub hl [0, 2, 3, 1, 4] rfl) hP hD hS
          · refine lv_lload_n hx hb d_Mo_encoded_78 rfl (lv_at hl 3 rfl) ?_
            refine lv_lconst (v := 1) hx hb d_Mo_encoded_79 (by decide) ?_
            refine lv_iconst (v := 1) hx hb d_Mo_encoded_80 (by decide) ?_
            refine lv_iload hx hb d_Mo_encoded_81 (lv_at hl 0 rfl) ?_
            refine lv_ishl hx hb d_Mo_encoded_83 ?_
            refine lv_lshl (v := u_lshl _ _) hx hb d_Mo_encoded_84 rfl ?_
            refine lv_lor hx hb d_Mo_encoded_85 ?_
            refine lv_goto (tgt := 90) hx hb d_Mo_encoded_86 (by decide) ?_
            refine lv_lstore_n (lv' := [(1, .long _), (5, .int _), (4, .int _), (3, .int _), (0, .int _)]) hx hb d_Mo_encoded_90 rfl hl (by decide) rfl (fun ls hl => ?_)
            refine lv_iinc (k := 1) (v := nI (_ + 1)) (lv' := [(5, .int _), (1, .long _), (4, .int _), (3, .int _), (0, .int _)]) hx hb d_Mo_encoded_91 hl rfl (nI_1 _) (by decide) rfl (fun ls hl => ?_)
            refine lv_goto (tgt := 60) hx hb d_Mo_encoded_94 (by decide) ?_
            rw [f_Mo_encoded_e3 (n) j2 b2 sy h75]
            exact ih (j2 + 1) _ _ _ _ _ (by omega)  (lv_sub hl [0, 2, 3, 1, 4] rfl) hP hD hS
      exact loop 6 0 _ _ _ _ _ (by omega)  hl hP hD hS
    | succ n ih =>
      intro j b_ i_ ls H locs hj  hl hP hD hS
      refine lv_iload hx hb d_Mo_encoded_7 (lv_at hl 0 rfl) ?_
      refine lv_bipush (v := 39) hx hb d_Mo_encoded_9 (by decide) ?_
      refine lv_icmp_ge (tgt := 51) hx hb d_Mo_encoded_11 (by decide) (fun h => absurd h (show ¬ nI 39 ≤ nI j from nI_ge (by omega) (by decide))) (fun _ => ?_)
      refine lv_iload hx hb d_Mo_encoded_14 (lv_at hl 0 rfl) ?_
      refine cj_i (wc := []) (w1 := []) hP hD hS hA [] rfl [] rfl rfl (va_runS (rest := []) ⟨hx, hb, hml, hown, hg⟩ (c_Mo_isData l D cI cL  _ (nI j)) ⟨callB_of 1 hg (gw_good m_623) rfl rfl rfl (hg _ m_71) (hg _ m_621) hd_Mo_isData ⟨Nat.le_of_ble_eq_true rfl, Nat.le_of_ble_eq_true rfl⟩, hg _ m_622⟩ (pw_S hK hN hT hA hP hD hS [] rfl (by decide)) rfl rfl hl.1 rfl (lv_room (Nat.le_of_ble_eq_true rfl)) d_Mo_encoded_16 ⟨Nat.le_of_ble_eq_true rfl, Nat.le_of_ble_eq_true rfl⟩) (fun H locs hP hD hS => ?_)
      have hP : va_P D classes [] H := hP
      have hD : va_D A [] := hD
      refine lv_if_eq (tgt := 45) hx hb d_Mo_encoded_19 (by decide) (fun h19 => ?_) (fun h19 => ?_)
      · refine lv_iinc (k := 0) (v := nI (_ + 1)) (lv' := [(4, .int _), (3, .int _), (1, .long _), (0, .int _)]) hx hb d_Mo_encoded_45 hl rfl (nI_1 _) (by decide) rfl (fun ls hl => ?_)
        refine lv_goto (tgt := 7) hx hb d_Mo_encoded_48 (by decide) ?_
        rw [f_Mo_encoded_e5 v (n) j b_ i_ h19]
        exact ih (j + 1) _ _ _ _ _ (by omega)  (lv_sub hl [0, 1, 2, 3] rfl) hP hD hS
      · refine lv_iload_n hx hb d_Mo_encoded_22 rfl (lv_at hl 3 rfl) ?_
        refine lv_iload_n hx hb d_Mo_encoded_23 rfl (lv_at hl 1 rfl) ?_
        refine lv_ishr hx hb d_Mo_encoded_24 ?_
        refine lv_iconst (v := 1) hx hb d_Mo_encoded_25 (by decide) ?_
        refine lv_iand hx hb d_Mo_encoded_26 ?_
        refine lv_iconst (v := 1) hx hb d_Mo_encoded_27 (by decide) ?_
        refine lv_icmp_ne (tgt := 40) hx hb d_Mo_encoded_28 (by decide) (fun h28 => ?_) (fun h28 => ?_)
        · refine lv_lload_n hx hb d_Mo_encoded_40 rfl (lv_at hl 2 rfl) ?_
          refine lv_lstore_n (lv' := [(1, .long _), (4, .int _), (3, .int _), (0, .int _)]) hx hb d_Mo_encoded_41 rfl hl (by decide) rfl (fun ls hl => ?_)
          refine lv_iinc (k := 2) (v := _ + 1) (lv' := [(3, .int _), (1, .long _), (4, .int _), (0, .int _)]) hx hb d_Mo_encoded_42 hl rfl rfl (by decide) rfl (fun ls hl => ?_)
          refine lv_iinc (k := 2) (v := nI (_ + 1)) (lv' := [(4, .int _), (3, .int _), (1, .long _), (0, .int _)]) hx hb d_Mo_encoded_45 hl rfl (nI_1 _) (by decide) rfl (fun ls hl => ?_)
          refine lv_goto (tgt := 7) hx hb d_Mo_encoded_48 (by decide) ?_
          rw [f_Mo_encoded_e6 v (n) j b_ i_ h19 h28]
          exact ih (j + 1) _ _ _ _ _ (by omega)  (lv_sub hl [0, 1, 2, 3] rfl) hP hD hS
        · refine lv_lload_n hx hb d_Mo_encoded_31 rfl (lv_at hl 2 rfl) ?_
          refine lv_lconst (v := 1) hx hb d_Mo_encoded_32 (by decide) ?_
          refine lv_iload hx hb d_Mo_encoded_33 (lv_at hl 0 rfl) ?_
          refine lv_lshl (v := u_lshl _ _) hx hb d_Mo_encoded_35 rfl ?_
          refine lv_lor hx hb d_Mo_encoded_36 ?_
          refine lv_goto (tgt := 41) hx hb d_Mo_encoded_37 (by decide) ?_
          refine lv_lstore_n (lv' := [(1, .long _), (4, .int _), (3, .int _), (0, .int _)]) hx hb d_Mo_encoded_41 rfl hl (by decide) rfl (fun ls hl => ?_)
          refine lv_iinc (k := 2) (v := _ + 1) (lv' := [(3, .int _), (1, .long _), (4, .int _), (0, .int _)]) hx hb d_Mo_encoded_42 hl rfl rfl (by decide) rfl (fun ls hl => ?_)
          refine lv_iinc (k := 2) (v := nI (_ + 1)) (lv' := [(4, .int _), (3, .int _), (1, .long _), (0, .int _)]) hx hb d_Mo_encoded_45 hl rfl (nI_1 _) (by decide) rfl (fun ls hl => ?_)
          refine lv_goto (tgt := 7) hx hb d_Mo_encoded_48 (by decide) ?_
          rw [f_Mo_encoded_e7 v (n) j b_ i_ h19 h28]
          exact ih (j + 1) _ _ _ _ _ (by omega)  (lv_sub hl [0, 1, 2, 3] rfl) hP hD hS
  exact loop 36 3 _ _ _ _ _ (by omega)  hl hP hD hS
abbrev q_Mo_wrongBit (D : va_G) (cI cL : ClassId) (A : Nat → Prop)  (F : Int32) : Array Value → State → Outcome → State → Prop := va_Qi (fun r (_ : Unit) => r = F) (fun _ t => va_P D classes [] t.heap) A
theorem f_Mo_wrongBit_e0 (x : Int64)  (h9 : (f_Mo_isOdd x) = 0) (h28 : ¬ (f_Mo_syndrome x) = 0) : f_Mo_wrongBit x = ((-2 : Int32)) := by
  exact ((if_pos h9).trans (if_neg h28))
theorem f_Mo_wrongBit_e1 (x : Int64)  (h9 : (f_Mo_isOdd x) = 0) (h28 : (f_Mo_syndrome x) = 0) : f_Mo_wrongBit x = ((-1 : Int32)) := by
  exact ((if_pos h9).trans (if_pos h28))
theorem f_Mo_wrongBit_e2 (x : Int64)  (h9 : ¬ (f_Mo_isOdd x) = 0) (h15 : (39 : Int32) ≤ (f_Mo_syndrome x)) : f_Mo_wrongBit x = ((-2 : Int32)) := by
  exact ((if_neg h9).trans (if_pos h15))
theorem f_Mo_wrongBit_e3 (x : Int64)  (h9 : ¬ (f_Mo_isOdd x) = 0) (h15 : ¬ (39 : Int32) ≤ (f_Mo_syndrome x)) : f_Mo_wrongBit x = ((f_Mo_syndrome x)) := by
  exact ((if_neg h9).trans (if_neg h15))
set_option maxHeartbeats 4000000 in
set_option maxRecDepth 100000 in
theorem c_Mo_wrongBit (l : Launch) (D : va_G) (cI cL : ClassId) (sz : Nat)  (x : Int64)  : Met l y_Mo_wrongBit w_Mo_wrongBit ({ frames := 1, cells := 0, slots := 0, locals := 23 }) (va_Pc [.long x] (PW D cI cL [] sz)) (q_Mo_wrongBit D cI cL (va_A [] sz)  (f_Mo_wrongBit x)) 0 0 (va_A [] sz) := by
  refine mk_met (Qf := fun A => q_Mo_wrongBit D cI cL A  (f_Mo_wrongBit x)) (by decide) (Nat.le_of_ble_eq_true rfl) ?_
  intro p e s m below meth c A ls hx hb hr hlocks hml hown hg hK hN hT hA hP hD hS hnm hl
  refine lv_lload_n hx hb d_Mo_wrongBit_0 rfl (lv_at hl 0 rfl) ?_
  refine cj_i (wc := []) (w1 := []) hP hD hS hA [] rfl [] rfl rfl (va_runS (rest := []) ⟨hx, hb, hml, hown, hg⟩ (c_Mo_syndrome l D cI cL  _ x) ⟨callB_of 1 hg (gw_good m_617) rfl rfl rfl (hg _ m_71) (hg _ m_615) hd_Mo_syndrome ⟨Nat.le_of_ble_eq_true rfl, Nat.le_of_ble_eq_true rfl⟩, hg _ m_616⟩ (pw_S hK hN hT hA hP hD hS [] rfl (by decide)) rfl rfl hl.1 rfl (lv_room (Nat.le_of_ble_eq_true rfl)) d_Mo_wrongBit_1 ⟨Nat.le_of_ble_eq_true rfl, Nat.le_of_ble_eq_true rfl⟩) (fun H locs hP hD hS => ?_)
  have hP : va_P D classes [] H := hP
  have hD : va_D A [] := hD
  refine lv_istore_n (lv' := [(2, .int _), (0, .long _)]) hx hb d_Mo_wrongBit_4 rfl hl (by decide) rfl (fun ls hl => ?_)
  refine lv_lload_n hx hb d_Mo_wrongBit_5 rfl (lv_at hl 1 rfl) ?_
  refine cj_i (wc := []) (w1 := []) hP hD hS hA [] rfl [] rfl rfl (va_runS (rest := []) ⟨hx, hb, hml, hown, hg⟩ (c_Mo_isOdd l D cI cL  _ x) ⟨callB_of 1 hg (gw_good m_606) rfl rfl rfl (hg _ m_71) (hg _ m_604) hd_Mo_isOdd ⟨Nat.le_of_ble_eq_true rfl, Nat.le_of_ble_eq_true rfl⟩, hg _ m_605⟩ (pw_S hK hN hT hA hP hD hS [] rfl (by decide)) rfl rfl hl.1 rfl (lv_room (Nat.le_of_ble_eq_true rfl)) d_Mo_wrongBit_6 ⟨Nat.le_of_ble_eq_true rfl, Nat.le_of_ble_eq_true rfl⟩) (fun H locs hP hD hS => ?_)
  have hP : va_P D classes [] H := hP
  have hD : va_D A [] := hD
  refine lv_if_eq (tgt := 27) hx hb d_Mo_wrongBit_9 (by decide) (fun h9 => ?_) (fun h9 => ?_)
  · refine lv_iload_n hx hb d_Mo_wrongBit_27 rfl (lv_at hl 0 rfl) ?_
    refine lv_if_ne (tgt := 35) hx hb d_Mo_wrongBit_28 (by decide) (fun h28 => ?_) (fun h28 => ?_)
    · refine lv_bipush (v := -2) hx hb d_Mo_wrongBit_35 (by decide) ?_
      rw [f_Mo_wrongBit_e0 x h9 h28]
      exact W.iret hx hb hr (fun t ht hW => ⟨⟨_, (), rfl, rfl, by show va_P D classes _ t.heap; rw [ht]; exact hP⟩, hS.F ht⟩) hS.2.2 d_Mo_wrongBit_37 hlocks
    · refine lv_iconst (v := -1) hx hb d_Mo_wrongBit_31 (by decide) ?_
      refine lv_goto (tgt := 37) hx hb d_Mo_wrongBit_32 (by decide) ?_
      rw [f_Mo_wrongBit_e1 x h9 h28]
      exact W.iret hx hb hr (fun t ht hW => ⟨⟨_, (), rfl, rfl, by show va_P D classes _ t.heap; rw [ht]; exact hP⟩, hS.F ht⟩) hS.2.2 d_Mo_wrongBit_37 hlocks
  · refine lv_iload_n hx hb d_Mo_wrongBit_12 rfl (lv_at hl 0 rfl) ?_
    refine lv_bipush (v := 39) hx hb d_Mo_wrongBit_13 (by decide) ?_
    refine lv_icmp_ge (tgt := 22) hx hb d_Mo_wrongBit_15 (by decide) (fun h15 => ?_) (fun h15 => ?_)
    · refine lv_bipush (v := -2) hx hb d_Mo_wrongBit_22 (by decide) ?_
      refine lv_goto (tgt := 37) hx hb d_Mo_wrongBit_24 (by decide) ?_
      rw [f_Mo_wrongBit_e2 x h9 h15]
      exact W.iret hx hb hr (fun t ht hW => ⟨⟨_, (), rfl, rfl, by show va_P D classes _ t.heap; rw [ht]; exact hP⟩, hS.F ht⟩) hS.2.2 d_Mo_wrongBit_37 hlocks
    · refine lv_iload_n hx hb d_Mo_wrongBit_18 rfl (lv_at hl 0 rfl) ?_
      refine lv_goto (tgt := 37) hx hb d_Mo_wrongBit_19 (by decide) ?_
      rw [f_Mo_wrongBit_e3 x h9 h15]
      exact W.iret hx hb hr (fun t ht hW => ⟨⟨_, (), rfl, rfl, by show va_P D classes _ t.heap; rw [ht]; exact hP⟩, hS.F ht⟩) hS.2.2 d_Mo_wrongBit_37 hlocks
abbrev q_Mo_mend (D : va_G) (cI cL : ClassId) (b0 b1 b2 b3 b4 b5 b6 b7 : Nat) (A : Nat → Prop) (ev : Int32) (wr : Nat → Int32) (wg : Nat → Int64) (ke : Nat → Int32) (ma : Nat → Int32) (li : Nat → Int64) (ps : Int32) (pn : Nat → Int32) (cy : Int32) (ca : Int32) (va : Int32) (cn : Nat → Int32) (pp : Int32) (px : Int32) (go : Int32) (ne : Int32) (gi : Int32) (gn : Int32) (F : Int32 × (Nat → Int64) × (Nat → Int32)) : Array Value → State → Outcome → State → Prop := va_Qi (fun r (_ : Unit) => r = F.1) (fun _ t => va_P D classes (W_Mo cI cL b0 b1 b2 b3 b4 b5 b6 b7 ev wr F.2.1 ke ma li ps pn cy ca va F.2.2 pp px go ne gi gn) t.heap) A
theorem f_Mo_mend_e0 (wg : Nat → Int64) (cn : Nat → Int32) (w : Int32)  (h11 : (f_Mo_wrongBit (wg w.toNatClampNeg)) < 0) (h43 : (f_Mo_wrongBit (wg w.toNatClampNeg)) = (-2 : Int32)) : f_Mo_mend wg cn w = ((0 : Int32), wg, cn) := by
  exact ((if_pos h11).trans (if_pos h43))
theorem f_Mo_mend_e1 (wg : Nat → Int64) (cn : Nat → Int32) (w : Int32)  (h11 : (f_Mo_wrongBit (wg w.toNatClampNeg)) < 0) (h43 : ¬ (f_Mo_wrongBit (wg w.toNatClampNeg)) = (-2 : Int32)) : f_Mo_mend wg cn w = ((1 : Int32), wg, cn) := by
  exact ((if_pos h11).trans (if_neg h43))
theorem f_Mo_mend_e2 (wg : Nat → Int64) (cn : Nat → Int32) (w : Int32)  (h11 : ¬ (f_Mo_wrongBit (wg w.toNatClampNeg)) < 0) (h43 : (f_Mo_wrongBit (wg w.toNatClampNeg)) = (-2 : Int32)) : f_Mo_mend wg cn w = ((0 : Int32), (vp_updL wg w.toNatClampNeg ((wg w.toNatClampNeg) ^^^ (u_lshl (1 : Int64) (f_Mo_wrongBit (wg w.toNatClampNeg))))), (upd cn (0 : Int32).toNatClampNeg ((cn (0 : Int32).toNatClampNeg) + (1 : Int32)))) := by
  exact ((if_neg h11).trans (if_pos h43))
theorem f_Mo_mend_e3 (wg : Nat → Int64) (cn : Nat → Int32) (w : Int32)  (h11 : ¬ (f_Mo_wrongBit (wg w.toNatClampNeg)) < 0) (h43 : ¬ (f_Mo_wrongBit (wg w.toNatClampNeg)) = (-2 : Int32)) : f_Mo_mend wg cn w = ((1 : Int32), (vp_updL wg w.toNatClampNeg ((wg w.toNatClampNeg) ^^^ (u_lshl (1 : Int64) (f_Mo_wrongBit (wg w.toNatClampNeg))))), (upd cn (0 : Int32).toNatClampNeg ((cn (0 : Int32).toNatClampNeg) + (1 : Int32)))) := by
  exact ((if_neg h11).trans (if_neg h43))
set_option maxHeartbeats 4000000 in
set_option maxRecDepth 100000 in
theorem c_Mo_mend (l : Launch) (D : va_G) (cI cL : ClassId) (b0 b1 b2 b3 b4 b5 b6 b7 : Nat) (sz : Nat) (ev : Int32) (wr : Nat → Int32) (wg : Nat → Int64) (ke : Nat → Int32) (ma : Nat → Int32) (li : Nat → Int64) (ps : Int32) (pn : Nat → Int32) (cy : Int32) (ca : Int32) (va : Int32) (cn : Nat → Int32) (pp : Int32) (px : Int32) (go : Int32) (ne : Int32) (gi : Int32) (gn : Int32) (w : Int32) (h_w : vp_in w 64) : Met l y_Mo_mend w_Mo_mend ({ frames := 2, cells := 0, slots := 0, locals := 45 }) (va_Pc [.ref b0, .int w] (PW D cI cL (W_Mo cI cL b0 b1 b2 b3 b4 b5 b6 b7 ev wr wg ke ma li ps pn cy ca va cn pp px go ne gi gn) sz)) (q_Mo_mend D cI cL b0 b1 b2 b3 b4 b5 b6 b7 (va_A (W_Mo cI cL b0 b1 b2 b3 b4 b5 b6 b7 ev wr wg ke ma li ps pn cy ca va cn pp px go ne gi gn) sz) ev wr wg ke ma li ps pn cy ca va cn pp px go ne gi gn (f_Mo_mend wg cn w)) 0 0 (va_A (W_Mo cI cL b0 b1 b2 b3 b4 b5 b6 b7 ev wr wg ke ma li ps pn cy ca va cn pp px go ne gi gn) sz) := by
  refine mk_met (Qf := fun A => q_Mo_mend D cI cL b0 b1 b2 b3 b4 b5 b6 b7 A ev wr wg ke ma li ps pn cy ca va cn pp px go ne gi gn (f_Mo_mend wg cn w)) (by decide) (Nat.le_of_ble_eq_true rfl) ?_
  intro p e s m below meth c A ls hx hb hr hlocks hml hown hg hK hN hT hA hP hD hS hnm hl
  refine lv_aload_n hx hb d_Mo_mend_0 rfl (lv_at hl 0 rfl) ?_
  refine va_get (ci := 5) (C := R_Mo) (T := F_Mo) (N := 18) hx hb hg in_Mo hown hK hP 0 rfl rfl 2 (by decide) (hg _ m_505) (fun _ h => h) rfl d_Mo_mend_1 ?_
  refine lv_iload_n hx hb d_Mo_mend_4 rfl (lv_at hl 1 rfl) ?_
  refine va_lald hx hb hK hP 2 1 rfl rfl h_w d_Mo_mend_5 ?_
  refine cj_i (wc := []) (w1 := []) hP hD hS hA [] rfl [] rfl rfl (va_runS (rest := []) ⟨hx, hb, hml, hown, hg⟩ (c_Mo_wrongBit l D cI cL  _ (wg w.toNatClampNeg)) ⟨callB_of 1 hg (gw_good m_614) rfl rfl rfl (hg _ m_71) (hg _ m_612) hd_Mo_wrongBit ⟨Nat.le_of_ble_eq_true rfl, Nat.le_of_ble_eq_true rfl⟩, hg _ m_613⟩ (pw_S hK hN hT hA hP hD hS [] rfl (by decide)) rfl rfl hl.1 rfl (lv_room (Nat.le_of_ble_eq_true rfl)) d_Mo_mend_6 ⟨Nat.le_of_ble_eq_true rfl, Nat.le_of_ble_eq_true rfl⟩) (fun H locs hP hD hS => ?_)
  have hP : va_P D classes (W_Mo cI cL b0 b1 b2 b3 b4 b5 b6 b7 ev wr wg ke ma li ps pn cy ca va cn pp px go ne gi gn) H := hP
  have hD : va_D A (W_Mo cI cL b0 b1 b2 b3 b4 b5 b6 b7 ev wr wg ke ma li ps pn cy ca va cn pp px go ne gi gn) := hD
  refine lv_istore_n (lv' := [(2, .int _), (0, .ref _), (1, .int _)]) hx hb d_Mo_mend_9 rfl hl (by decide) rfl (fun ls hl => ?_)
  refine lv_iload_n hx hb d_Mo_mend_10 rfl (lv_at hl 0 rfl) ?_
  refine lv_if_lt (tgt := 40) hx hb d_Mo_mend_11 (by decide) (fun h11 => ?_) (fun h11 => ?_)
  · refine lv_iload_n hx hb d_Mo_mend_40 rfl (lv_at hl 0 rfl) ?_
    refine lv_bipush (v := -2) hx hb d_Mo_mend_41 (by decide) ?_
    refine lv_icmp_eq (tgt := 50) hx hb d_Mo_mend_43 (by decide) (fun h43 => ?_) (fun h43 => ?_)
    · refine lv_iconst (v := 0) hx hb d_Mo_mend_50 (by decide) ?_
      rw [f_Mo_mend_e0 wg cn w h11 h43]
      exact W.zret hx hb hr rfl (fun t ht hW => ⟨⟨_, (), rfl, rfl, by show va_P D classes _ t.heap; rw [ht]; exact hP⟩, hS.F ht⟩) hS.2.2 d_Mo_mend_51 hlocks
    · refine lv_iconst (v := 1) hx hb d_Mo_mend_46 (by decide) ?_
      refine lv_goto (tgt := 51) hx hb d_Mo_mend_47 (by decide) ?_
      rw [f_Mo_mend_e1 wg cn w h11 h43]
      exact W.zret hx hb hr rfl (fun t ht hW => ⟨⟨_, (), rfl, rfl, by show va_P D classes _ t.heap; rw [ht]; exact hP⟩, hS.F ht⟩) hS.2.2 d_Mo_mend_51 hlocks
  · refine lv_aload_n hx hb d_Mo_mend_14 rfl (lv_at hl 1 rfl) ?_
    refine va_get (ci := 5) (C := R_Mo) (T := F_Mo) (N := 18) hx hb hg in_Mo hown hK hP 0 rfl rfl 2 (by decide) (hg _ m_505) (fun _ h => h) rfl d_Mo_mend_15 ?_
    refine lv_iload_n hx hb d_Mo_mend_18 rfl (lv_at hl 2 rfl) ?_
    refine lv_aload_n hx hb d_Mo_mend_19 rfl (lv_at hl 1 rfl) ?_
    refine va_get (ci := 5) (C := R_Mo) (T := F_Mo) (N := 18) hx hb hg in_Mo hown hK hP 0 rfl rfl 2 (by decide) (hg _ m_505) (fun _ h => h) rfl d_Mo_mend_20 ?_
    refine lv_iload_n hx hb d_Mo_mend_23 rfl (lv_at hl 2 rfl) ?_
    refine va_lald hx hb hK hP 2 1 rfl rfl h_w d_Mo_mend_24 ?_
    refine lv_lconst (v := 1) hx hb d_Mo_mend_25 (by decide) ?_
    refine lv_iload_n hx hb d_Mo_mend_26 rfl (lv_at hl 0 rfl) ?_
    refine lv_lshl (v := u_lshl _ _) hx hb d_Mo_mend_27 rfl ?_
    refine lv_lxor hx hb d_Mo_mend_28 ?_
    refine va_last hx hb hK hP hD hS 2 1 rfl rfl h_w d_Mo_mend_29 (fun H locs hP hD hS => ?_)
    have hP : va_P D classes (W_Mo cI cL b0 b1 b2 b3 b4 b5 b6 b7 ev wr (vp_updL wg w.toNatClampNeg ((wg w.toNatClampNeg) ^^^ (u_lshl (1 : Int64) (f_Mo_wrongBit (wg w.toNatClampNeg))))) ke ma li ps pn cy ca va cn pp px go ne gi gn) H := hP
    have hD : va_D A (W_Mo cI cL b0 b1 b2 b3 b4 b5 b6 b7 ev wr (vp_updL wg w.toNatClampNeg ((wg w.toNatClampNeg) ^^^ (u_lshl (1 : Int64) (f_Mo_wrongBit (wg w.toNatClampNeg))))) ke ma li ps pn cy ca va cn pp px go ne gi gn) := hD
    refine lv_aload_n hx hb d_Mo_mend_30 rfl (lv_at hl 1 rfl) ?_
    refine va_get (ci := 5) (C := R_Mo) (T := F_Mo) (N := 18) hx hb hg in_Mo hown hK hP 0 rfl rfl 11 (by decide) (hg _ m_514) (fun _ h => h) rfl d_Mo_mend_31 ?_
    refine lv_iconst (v := 0) hx hb d_Mo_mend_34 (by decide) ?_
    refine lv_dup2_11 hx hb d_Mo_mend_35 rfl rfl ?_
    refine va_iald hx hb hK hP 7 0 rfl rfl (vp_ofb (by decide)) d_Mo_mend_36 ?_
    refine lv_iconst (v := 1) hx hb d_Mo_mend_37 (by decide) ?_
    refine lv_iadd hx hb d_Mo_mend_38 ?_
    refine va_iast hx hb hK hP hD hS 7 0 rfl rfl (vp_ofb (by decide)) d_Mo_mend_39 (fun H locs hP hD hS => ?_)
    have hP : va_P D classes (W_Mo cI cL b0 b1 b2 b3 b4 b5 b6 b7 ev wr (vp_updL wg w.toNatClampNeg ((wg w.toNatClampNeg) ^^^ (u_lshl (1 : Int64) (f_Mo_wrongBit (wg w.toNatClampNeg))))) ke ma li ps pn cy ca va (upd cn (0 : Int32).toNatClampNeg ((cn (0 : Int32).toNatClampNeg) + (1 : Int32))) pp px go ne gi gn) H := hP
    have hD : va_D A (W_Mo cI cL b0 b1 b2 b3 b4 b5 b6 b7 ev wr (vp_updL wg w.toNatClampNeg ((wg w.toNatClampNeg) ^^^ (u_lshl (1 : Int64) (f_Mo_wrongBit (wg w.toNatClampNeg))))) ke ma li ps pn cy ca va (upd cn (0 : Int32).toNatClampNeg ((cn (0 : Int32).toNatClampNeg) + (1 : Int32))) pp px go ne gi gn) := hD
    refine lv_iload_n hx hb d_Mo_mend_40 rfl (lv_at hl 0 rfl) ?_
    refine lv_bipush (v := -2) hx hb d_Mo_mend_41 (by decide) ?_
    refine lv_icmp_eq (tgt := 50) hx hb d_Mo_mend_43 (by decide) (fun h43 => ?_) (fun h43 => ?_)
    · refine lv_iconst (v := 0) hx hb d_Mo_mend_50 (by decide) ?_
      rw [f_Mo_mend_e2 wg cn w h11 h43]
      exact W.zret hx hb hr rfl (fun t ht hW => ⟨⟨_, (), rfl, rfl, by show va_P D classes _ t.heap; rw [ht]; exact hP⟩, hS.F ht⟩) hS.2.2 d_Mo_mend_51 hlocks
    · refine lv_iconst (v := 1) hx hb d_Mo_mend_46 (by decide) ?_
      refine lv_goto (tgt := 51) hx hb d_Mo_mend_47 (by decide) ?_
      rw [f_Mo_mend_e3 wg cn w h11 h43]
      exact W.zret hx hb hr rfl (fun t ht hW => ⟨⟨_, (), rfl, rfl, by show va_P D classes _ t.heap; rw [ht]; exact hP⟩, hS.F ht⟩) hS.2.2 d_Mo_mend_51 hlocks
abbrev q_Mo_keep (D : va_G) (cI cL : ClassId) (b0 b1 b2 b3 b4 b5 b6 b7 : Nat) (A : Nat → Prop) (ev : Int32) (wr : Nat → Int32) (wg : Nat → Int64) (ke : Nat → Int32) (ma : Nat → Int32) (li : Nat → Int64) (ps : Int32) (pn : Nat → Int32) (cy : Int32) (ca : Int32) (va : Int32) (cn : Nat → Int32) (pp : Int32) (px : Int32) (go : Int32) (ne : Int32) (gi : Int32) (gn : Int32) (F : (Nat → Int32) × (Nat → Int64)) : Array Value → State → Outcome → State → Prop := va_Qv (fun (_ : Unit) => True) (fun _ t => va_P D classes (W_Mo cI cL b0 b1 b2 b3 b4 b5 b6 b7 ev F.1 F.2 ke ma li ps pn cy ca va cn pp px go ne gi gn) t.heap) A
set_option maxHeartbeats 4000000 in
set_option maxRecDepth 100000 in
theorem c_Mo_keep (l : Launch) (D : va_G) (cI cL : ClassId) (b0 b1 b2 b3 b4 b5 b6 b7 : Nat) (sz : Nat) (ev : Int32) (wr : Nat → Int32) (wg : Nat → Int64) (ke : Nat → Int32) (ma : Nat → Int32) (li : Nat → Int64) (ps : Int32) (pn : Nat → Int32) (cy : Int32) (ca : Int32) (va : Int32) (cn : Nat → Int32) (pp : Int32) (px : Int32) (go : Int32) (ne : Int32) (gi : Int32) (gn : Int32) (w : Int32) (v : Int32) (h_w : vp_in w 64) : Met l y_Mo_keep w_Mo_keep ({ frames := 0, cells := 0, slots := 0, locals := 0 }) (va_Pc [.ref b0, .int w, .int v] (PW D cI cL (W_Mo cI cL b0 b1 b2 b3 b4 b5 b6 b7 ev wr wg ke ma li ps pn cy ca va cn pp px go ne gi gn) sz)) (q_Mo_keep D cI cL b0 b1 b2 b3 b4 b5 b6 b7 (va_A (W_Mo cI cL b0 b1 b2 b3 b4 b5 b6 b7 ev wr wg ke ma li ps pn cy ca va cn pp px go ne gi gn) sz) ev wr wg ke ma li ps pn cy ca va cn pp px go ne gi gn (f_Mo_keep wr wg w v)) 0 0 (va_A (W_Mo cI cL b0 b1 b2 b3 b4 b5 b6 b7 ev wr wg ke ma li ps pn cy ca va cn pp px go ne gi gn) sz) := by
  refine mk_met (Qf := fun A => q_Mo_keep D cI cL b0 b1 b2 b3 b4 b5 b6 b7 A ev wr wg ke ma li ps pn cy ca va cn pp px go ne gi gn (f_Mo_keep wr wg w v)) (by decide) (Nat.le_of_ble_eq_true rfl) ?_
  intro p e s m below meth c A ls hx hb hr hlocks hml hown hg hK hN hT hA hP hD hS hnm hl
  refine lv_aload_n hx hb d_Mo_keep_0 rfl (lv_at hl 0 rfl) ?_
  refine va_get (ci := 5) (C := R_Mo) (T := F_Mo) (N := 18) hx hb hg in_Mo hown hK hP 0 rfl rfl 1 (by decide) (hg _ m_504) (fun _ h => h) rfl d_Mo_keep_1 ?_
  refine lv_iload_n hx hb d_Mo_keep_4 rfl (lv_at hl 1 rfl) ?_
  refine lv_iload_n hx hb d_Mo_keep_5 rfl (lv_at hl 2 rfl) ?_
  refine va_iast hx hb hK hP hD hS 1 0 rfl rfl h_w d_Mo_keep_6 (fun H locs hP hD hS => ?_)
  have hP : va_P D classes (W_Mo cI cL b0 b1 b2 b3 b4 b5 b6 b7 ev (upd wr w.toNatClampNeg v) wg ke ma li ps pn cy ca va cn pp px go ne gi gn) H := hP
  have hD : va_D A (W_Mo cI cL b0 b1 b2 b3 b4 b5 b6 b7 ev (upd wr w.toNatClampNeg v) wg ke ma li ps pn cy ca va cn pp px go ne gi gn) := hD
  refine lv_aload_n hx hb d_Mo_keep_7 rfl (lv_at hl 0 rfl) ?_
  refine va_get (ci := 5) (C := R_Mo) (T := F_Mo) (N := 18) hx hb hg in_Mo hown hK hP 0 rfl rfl 2 (by decide) (hg _ m_505) (fun _ h => h) rfl d_Mo_keep_8 ?_
  refine lv_iload_n hx hb d_Mo_keep_11 rfl (lv_at hl 1 rfl) ?_
  refine lv_lconst (v := 0) hx hb d_Mo_keep_12 (by decide) ?_
  refine va_last hx hb hK hP hD hS 2 1 rfl rfl h_w d_Mo_keep_13 (fun H locs hP hD hS => ?_)
  have hP : va_P D classes (W_Mo cI cL b0 b1 b2 b3 b4 b5 b6 b7 ev (upd wr w.toNatClampNeg v) (vp_updL wg w.toNatClampNeg (0 : Int64)) ke ma li ps pn cy ca va cn pp px go ne gi gn) H := hP
  have hD : va_D A (W_Mo cI cL b0 b1 b2 b3 b4 b5 b6 b7 ev (upd wr w.toNatClampNeg v) (vp_updL wg w.toNatClampNeg (0 : Int64)) ke ma li ps pn cy ca va cn pp px go ne gi gn) := hD
  exact W.vret hx hb hr (fun t ht hW => ⟨⟨(), rfl, trivial, by show va_P D classes _ t.heap; rw [ht]; exact hP⟩, hS.F ht⟩) hS.2.2 d_Mo_keep_14 hlocks
abbrev q_Mo_line (D : va_G) (cI cL : ClassId) (A : Nat → Prop)  (F : Int64) : Array Value → State → Outcome → State → Prop := va_Ql (fun r (_ : Unit) => r = F) (fun _ t => va_P D classes [] t.heap) A
theorem f_Mo_line_e0 (v : Int32) (g : Int32) (t1 : Int64) (e_t1 : ((((v.toInt64) &&& (4294967295 : Int64)) ||| (u_lshl (g.toInt64) (32 : Int32))) ||| (68719476736 : Int64)) = t1) (h21 : (f_Mo_isOdd t1) = 0) : f_Mo_line v g = (t1) := by
  subst e_t1
  exact (if_pos h21)
theorem f_Mo_line_e1 (v : Int32) (g : Int32) (t1 : Int64) (e_t1 : ((((v.toInt64) &&& (4294967295 : Int64)) ||| (u_lshl (g.toInt64) (32 : Int32))) ||| (68719476736 : Int64)) = t1) (h21 : ¬ (f_Mo_isOdd t1) = 0) : f_Mo_line v g = ((t1 ||| (137438953472 : Int64))) := by
  subst e_t1
  exact (if_neg h21)
set_option maxHeartbeats 4000000 in
set_option maxRecDepth 100000 in
theorem c_Mo_line (l : Launch) (D : va_G) (cI cL : ClassId) (sz : Nat)  (v : Int32) (g : Int32)  : Met l y_Mo_line w_Mo_line ({ frames := 1, cells := 0, slots := 0, locals := 23 }) (va_Pc [.int v, .int g] (PW D cI cL [] sz)) (q_Mo_line D cI cL (va_A [] sz)  (f_Mo_line v g)) 0 0 (va_A [] sz) := by
  refine mk_met (Qf := fun A => q_Mo_line D cI cL A  (f_Mo_line v g)) (by decide) (Nat.le_of_ble_eq_true rfl) ?_
  intro p e s m below meth c A ls hx hb hr hlocks hml hown hg hK hN hT hA hP hD hS hnm hl
  refine lv_iload_n hx hb d_Mo_line_0 rfl (lv_at hl 0 rfl) ?_
  refine lv_i2l hx hb d_Mo_line_1 rfl ?_
  refine lv_ldc2 hx hb hown (hg _ m_627) d_Mo_line_2 ?_
  refine lv_land hx hb d_Mo_line_5 ?_
  refine lv_iload_n hx hb d_Mo_line_6 rfl (lv_at hl 1 rfl) ?_
  refine lv_i2l hx hb d_Mo_line_7 rfl ?_
  refine lv_bipush (v := 32) hx hb d_Mo_line_8 (by decide) ?_
  refine lv_lshl (v := u_lshl _ _) hx hb d_Mo_line_10 rfl ?_
  refine lv_lor hx hb d_Mo_line_11 ?_
  refine lv_ldc2 hx hb hown (hg _ m_628) d_Mo_line_12 ?_
  refine lv_lor hx hb d_Mo_line_15 ?_
  refine lv_topl (fun t1 e_t1 => ?_)
  have e_t1 := e_t1.symm
  refine lv_lstore_n (lv' := [(2, .long _), (0, .int _), (1, .int _)]) hx hb d_Mo_line_16 rfl hl (by decide) rfl (fun ls hl => ?_)
  refine lv_lload_n hx hb d_Mo_line_17 rfl (lv_at hl 0 rfl) ?_
  refine cj_i (wc := []) (w1 := []) hP hD hS hA [] rfl [] rfl rfl (va_runS (rest := []) ⟨hx, hb, hml, hown, hg⟩ (c_Mo_isOdd l D cI cL  _ t1) ⟨callB_of 1 hg (gw_good m_606) rfl rfl rfl (hg _ m_71) (hg _ m_604) hd_Mo_isOdd ⟨Nat.le_of_ble_eq_true rfl, Nat.le_of_ble_eq_true rfl⟩, hg _ m_605⟩ (pw_S hK hN hT hA hP hD hS [] rfl (by decide)) rfl rfl hl.1 rfl (lv_room (Nat.le_of_ble_eq_true rfl)) d_Mo_line_18 ⟨Nat.le_of_ble_eq_true rfl, Nat.le_of_ble_eq_true rfl⟩) (fun H locs hP hD hS => ?_)
  have hP : va_P D classes [] H := hP
  have hD : va_D A [] := hD
  refine lv_if_eq (tgt := 32) hx hb d_Mo_line_21 (by decide) (fun h21 => ?_) (fun h21 => ?_)
  · refine lv_lload_n hx hb d_Mo_line_32 rfl (lv_at hl 0 rfl) ?_
    rw [f_Mo_line_e0 v g t1 e_t1 h21]
    exact W.lret hx hb hr (fun t ht hW => ⟨⟨_, (), rfl, rfl, by show va_P D classes _ t.heap; rw [ht]; exact hP⟩, hS.F ht⟩) hS.2.2 d_Mo_line_33 hlocks
  · refine lv_lload_n hx hb d_Mo_line_24 rfl (lv_at hl 0 rfl) ?_
    refine lv_ldc2 hx hb hown (hg _ m_629) d_Mo_line_25 ?_
    refine lv_lor hx hb d_Mo_line_28 ?_
    refine lv_goto (tgt := 33) hx hb d_Mo_line_29 (by decide) ?_
    rw [f_Mo_line_e1 v g t1 e_t1 h21]
    exact W.lret hx hb hr (fun t ht hW => ⟨⟨_, (), rfl, rfl, by show va_P D classes _ t.heap; rw [ht]; exact hP⟩, hS.F ht⟩) hS.2.2 d_Mo_line_33 hlocks
abbrev q_Mo_stop (D : va_G) (cI cL : ClassId) (b0 b1 b2 b3 b4 b5 b6 b7 : Nat) (A : Nat → Prop) (ev : Int32) (wr : Nat → Int32) (wg : Nat → Int64) (ke : Nat → Int32) (ma : Nat → Int32) (li : Nat → Int64) (ps : Int32) (pn : Nat → Int32) (cy : Int32) (ca : Int32) (va : Int32) (cn : Nat → Int32) (pp : Int32) (px : Int32) (go : Int32) (ne : Int32) (gi : Int32) (gn : Int32) (F : Int32 × Int32) : Array Value → State → Outcome → State → Prop := va_Qv (fun (_ : Unit) => True) (fun _ t => va_P D classes (W_Mo cI cL b0 b1 b2 b3 b4 b5 b6 b7 ev wr wg ke ma li ps pn cy F.1 F.2 cn pp px go ne gi gn) t.heap) A
set_option maxHeartbeats 4000000 in
set_option maxRecDepth 100000 in
theorem c_Mo_stop (l : Launch) (D : va_G) (cI cL : ClassId) (b0 b1 b2 b3 b4 b5 b6 b7 : Nat) (sz : Nat) (ev : Int32) (wr : Nat → Int32) (wg : Nat → Int64) (ke : Nat → Int32) (ma : Nat → Int32) (li : Nat → Int64) (ps : Int32) (pn : Nat → Int32) (cy : Int32) (ca : Int32) (va : Int32) (cn : Nat → Int32) (pp : Int32) (px : Int32) (go : Int32) (ne : Int32) (gi : Int32) (gn : Int32) (x : Int32) (v : Int32)  : Met l y_Mo_stop w_Mo_stop ({ frames := 0, cells := 0, slots := 0, locals := 0 }) (va_Pc [.ref b0, .int x, .int v] (PW D cI cL (W_Mo cI cL b0 b1 b2 b3 b4 b5 b6 b7 ev wr wg ke ma li ps pn cy ca va cn pp px go ne gi gn) sz)) (q_Mo_stop D cI cL b0 b1 b2 b3 b4 b5 b6 b7 (va_A (W_Mo cI cL b0 b1 b2 b3 b4 b5 b6 b7 ev wr wg ke ma li ps pn cy ca va cn pp px go ne gi gn) sz) ev wr wg ke ma li ps pn cy ca va cn pp px go ne gi gn (f_Mo_stop ca va x v)) 0 0 (va_A (W_Mo cI cL b0 b1 b2 b3 b4 b5 b6 b7 ev wr wg ke ma li ps pn cy ca va cn pp px go ne gi gn) sz) := by
  refine mk_met (Qf := fun A => q_Mo_stop D cI cL b0 b1 b2 b3 b4 b5 b6 b7 A ev wr wg ke ma li ps pn cy ca va cn pp px go ne gi gn (f_Mo_stop ca va x v)) (by decide) (Nat.le_of_ble_eq_true rfl) ?_
  intro p e s m below meth c A ls hx hb hr hlocks hml hown hg hK hN hT hA hP hD hS hnm hl
  refine lv_aload_n hx hb d_Mo_stop_0 rfl (lv_at hl 0 rfl) ?_
  refine lv_iload_n hx hb d_Mo_stop_1 rfl (lv_at hl 1 rfl) ?_
  refine va_put (ci := 5) (ty := .int) (C := R_Mo) (T := F_Mo) (N := 18) hx hb hg in_Mo t_Mo t_Mo_ok n_Mo hown hK hP hD hS 0 rfl rfl 9 (by decide) (hg _ m_512) (fun _ h => h) rfl (by decide +kernel) rfl rfl (Nat.le_of_ble_eq_true rfl) d_Mo_stop_2 (fun H locs hP hD hS => ?_)
  have hP : va_P D classes (W_Mo cI cL b0 b1 b2 b3 b4 b5 b6 b7 ev wr wg ke ma li ps pn cy x va cn pp px go ne gi gn) H := hP
  have hD : va_D A (W_Mo cI cL b0 b1 b2 b3 b4 b5 b6 b7 ev wr wg ke ma li ps pn cy x va cn pp px go ne gi gn) := hD
  refine lv_aload_n hx hb d_Mo_stop_5 rfl (lv_at hl 0 rfl) ?_
  refine lv_iload_n hx hb d_Mo_stop_6 rfl (lv_at hl 2 rfl) ?_
  refine va_put (ci := 5) (ty := .int) (C := R_Mo) (T := F_Mo) (N := 18) hx hb hg in_Mo t_Mo t_Mo_ok n_Mo hown hK hP hD hS 0 rfl rfl 10 (by decide) (hg _ m_513) (fun _ h => h) rfl (by decide +kernel) rfl rfl (Nat.le_of_ble_eq_true rfl) d_Mo_stop_7 (fun H locs hP hD hS => ?_)
  have hP : va_P D classes (W_Mo cI cL b0 b1 b2 b3 b4 b5 b6 b7 ev wr wg ke ma li ps pn cy x v cn pp px go ne gi gn) H := hP
  have hD : va_D A (W_Mo cI cL b0 b1 b2 b3 b4 b5 b6 b7 ev wr wg ke ma li ps pn cy x v cn pp px go ne gi gn) := hD
  exact W.vret hx hb hr (fun t ht hW => ⟨⟨(), rfl, trivial, by show va_P D classes _ t.heap; rw [ht]; exact hP⟩, hS.F ht⟩) hS.2.2 d_Mo_stop_10 hlocks
abbrev q_Mo_holds (D : va_G) (cI cL : ClassId) (b0 b1 b2 b3 b4 b5 b6 b7 : Nat) (A : Nat → Prop) (ev : Int32) (wr : Nat → Int32) (wg : Nat → Int64) (ke : Nat → Int32) (ma : Nat → Int32) (li : Nat → Int64) (ps : Int32) (pn : Nat → Int32) (cy : Int32) (ca : Int32) (va : Int32) (cn : Nat → Int32) (pp : Int32) (px : Int32) (go : Int32) (ne : Int32) (gi : Int32) (gn : Int32) (F : Int32 × (Nat → Int64) × (Nat → Int32)) : Array Value → State → Outcome → State → Prop := va_Qi (fun r (_ : Unit) => r = F.1) (fun _ t => va_P D classes (W_Mo cI cL b0 b1 b2 b3 b4 b5 b6 b7 ev wr wg ke ma F.2.1 ps pn cy ca va F.2.2 pp px go ne gi gn) t.heap) A
theorem f_Mo_holds_e0 (li : Nat → Int64) (cn : Nat → Int32) (cc : Int32) (w : Int32)  (h17 : (f_Mo_isOdd (li (((4 : Int32) * cc) + (u_rem w (4 : Int32))).toNatClampNeg)) = 0) (h52 : ¬ (lg_cmp ((u_lshr (li (((4 : Int32) * cc) + (u_rem w (4 : Int32))).toNatClampNeg) (36 : Int32)) &&& (1 : Int64)) (1 : Int64)) = 0) : f_Mo_holds li cn cc w = ((0 : Int32), li, cn) := by
  exact ((if_pos h17).trans (if_neg h52))
theorem f_Mo_holds_e1 (li : Nat → Int64) (cn : Nat → Int32) (cc : Int32) (w : Int32)  (h17 : (f_Mo_isOdd (li (((4 : Int32) * cc) + (u_rem w (4 : Int32))).toNatClampNeg)) = 0) (h52 : (lg_cmp ((u_lshr (li (((4 : Int32) * cc) + (u_rem w (4 : Int32))).toNatClampNeg) (36 : Int32)) &&& (1 : Int64)) (1 : Int64)) = 0) (h72 : ¬ (((u_lshr (li (((4 : Int32) * cc) + (u_rem w (4 : Int32))).toNatClampNeg) (32 : Int32)) &&& (15 : Int64)).toInt32) = (w / (4 : Int32))) : f_Mo_holds li cn cc w = ((0 : Int32), li, cn) := by
  exact ((if_pos h17).trans ((if_pos h52).trans (if_neg h72)))
theorem f_Mo_holds_e2 (li : Nat → Int64) (cn : Nat → Int32) (cc : Int32) (w : Int32)  (h17 : (f_Mo_isOdd (li (((4 : Int32) * cc) + (u_rem w (4 : Int32))).toNatClampNeg)) = 0) (h52 : (lg_cmp ((u_lshr (li (((4 : Int32) * cc) + (u_rem w (4 : Int32))).toNatClampNeg) (36 : Int32)) &&& (1 : Int64)) (1 : Int64)) = 0) (h72 : (((u_lshr (li (((4 : Int32) * cc) + (u_rem w (4 : Int32))).toNatClampNeg) (32 : Int32)) &&& (15 : Int64)).toInt32) = (w / (4 : Int32))) : f_Mo_holds li cn cc w = ((1 : Int32), li, cn) := by
  exact ((if_pos h17).trans ((if_pos h52).trans (if_pos h72)))
theorem f_Mo_holds_e3 (li : Nat → Int64) (cn : Nat → Int32) (cc : Int32) (w : Int32)  (h17 : ¬ (f_Mo_isOdd (li (((4 : Int32) * cc) + (u_rem w (4 : Int32))).toNatClampNeg)) = 0) (h52 : ¬ (lg_cmp ((u_lshr ((vp_updL li (((4 : Int32) * cc) + (u_rem w (4 : Int32))).toNatClampNeg (0 : Int64)) (((4 : Int32) * cc) + (u_rem w (4 : Int32))).toNatClampNeg) (36 : Int32)) &&& (1 : Int64)) (1 : Int64)) = 0) : f_Mo_holds li cn cc w = ((0 : Int32), (vp_updL li (((4 : Int32) * cc) + (u_rem w (4 : Int32))).toNatClampNeg (0 : Int64)), (upd cn ((3 : Int32) + cc).toNatClampNeg ((cn ((3 : Int32) + cc).toNatClampNeg) + (1 : Int32)))) := by
  exact ((if_neg h17).trans (if_neg h52))
theorem f_Mo_holds_e4 (li : Nat → Int64) (cn : Nat → Int32) (cc : Int32) (w : Int32)  (h17 : ¬ (f_Mo_isOdd (li (((4 : Int32) * cc) + (u_rem w (4 : Int32))).toNatClampNeg)) = 0) (h52 : (lg_cmp ((u_lshr ((vp_updL li (((4 : Int32) * cc) + (u_rem w (4 : Int32))).toNatClampNeg (0 : Int64)) (((4 : Int32) * cc) + (u_rem w (4 : Int32))).toNatClampNeg) (36 : Int32)) &&& (1 : Int64)) (1 : Int64)) = 0) (h72 : ¬ (((u_lshr ((vp_updL li (((4 : Int32) * cc) + (u_rem w (4 : Int32))).toNatClampNeg (0 : Int64)) (((4 : Int32) * cc) + (u_rem w (4 : Int32))).toNatClampNeg) (32 : Int32)) &&& (15 : Int64)).toInt32) = (w / (4 : Int32))) : f_Mo_holds li cn cc w = ((0 : Int32), (vp_updL li (((4 : Int32) * cc) + (u_rem w (4 : Int32))).toNatClampNeg (0 : Int64)), (upd cn ((3 : Int32) + cc).toNatClampNeg ((cn ((3 : Int32) + cc).toNatClampNeg) + (1 : Int32)))) := by
  exact ((if_neg h17).trans ((if_pos h52).trans (if_neg h72)))
theorem f_Mo_holds_e5 (li : Nat → Int64) (cn : Nat → Int32) (cc : Int32) (w : Int32)  (h17 : ¬ (f_Mo_isOdd (li (((4 : Int32) * cc) + (u_rem w (4 : Int32))).toNatClampNeg)) = 0) (h52 : (lg_cmp ((u_lshr ((vp_updL li (((4 : Int32) * cc) + (u_rem w (4 : Int32))).toNatClampNeg (0 : Int64)) (((4 : Int32) * cc) + (u_rem w (4 : Int32))).toNatClampNeg) (36 : Int32)) &&& (1 : Int64)) (1 : Int64)) = 0) (h72 : (((u_lshr ((vp_updL li (((4 : Int32) * cc) + (u_rem w (4 : Int32))).toNatClampNeg (0 : Int64)) (((4 : Int32) * cc) + (u_rem w (4 : Int32))).toNatClampNeg) (32 : Int32)) &&& (15 : Int64)).toInt32) = (w / (4 : Int32))) : f_Mo_holds li cn cc w = ((1 : Int32), (vp_updL li (((4 : Int32) * cc) + (u_rem w (4 : Int32))).toNatClampNeg (0 : Int64)), (upd cn ((3 : Int32) + cc).toNatClampNeg ((cn ((3 : Int32) + cc).toNatClampNeg) + (1 : Int32)))) := by
  exact ((if_neg h17).trans ((if_pos h52).trans (if_pos h72)))
set_option maxHeartbeats 4000000 in
set_option maxRecDepth 100000 in
theorem c_Mo_holds (l : Launch) (D : va_G) (cI cL : ClassId) (b0 b1 b2 b3 b4 b5 b6 b7 : Nat) (sz : Nat) (ev : Int32) (wr : Nat → Int32) (wg : Nat → Int64) (ke : Nat → Int32) (ma : Nat → Int32) (li : Nat → Int64) (ps : Int32) (pn : Nat → Int32) (cy : Int32) (ca : Int32) (va : Int32) (cn : Nat → Int32) (pp : Int32) (px : Int32) (go : Int32) (ne : Int32) (gi : Int32) (gn : Int32) (cc : Int32) (w : Int32) (h_cc : vp_in cc 2) (h_w : vp_in w 64) : Met l y_Mo_holds w_Mo_holds ({ frames := 1, cells := 0, slots := 0, locals := 23 }) (va_Pc [.ref b0, .int cc, .int w] (PW D cI cL (W_Mo cI cL b0 b1 b2 b3 b4 b5 b6 b7 ev wr wg ke ma li ps pn cy ca va cn pp px go ne gi gn) sz)) (q_Mo_holds D cI cL b0 b1 b2 b3 b4 b5 b6 b7 (va_A (W_Mo cI cL b0 b1 b2 b3 b4 b5 b6 b7 ev wr wg ke ma li ps pn cy ca va cn pp px go ne gi gn) sz) ev wr wg ke ma li ps pn cy ca va cn pp px go ne gi gn (f_Mo_holds li cn cc w)) 0 0 (va_A (W_Mo cI cL b0 b1 b2 b3 b4 b5 b6 b7 ev wr wg ke ma li ps pn cy ca va cn pp px go ne gi gn) sz) := by
  refine mk_met (Qf := fun A => q_Mo_holds D cI cL b0 b1 b2 b3 b4 b5 b6 b7 A ev wr wg ke ma li ps pn cy ca va cn pp px go ne gi gn (f_Mo_holds li cn cc w)) (by decide) (Nat.le_of_ble_eq_true rfl) ?_
  intro p e s m below meth c A ls hx hb hr hlocks hml hown hg hK hN hT hA hP hD hS hnm hl
  refine lv_iconst (v := 4) hx hb d_Mo_holds_0 (by decide) ?_
  refine lv_iload_n hx hb d_Mo_holds_1 rfl (lv_at hl 1 rfl) ?_
  refine lv_imul hx hb d_Mo_holds_2 ?_
  refine lv_iload_n hx hb d_Mo_holds_3 rfl (lv_at hl 2 rfl) ?_
  refine lv_iconst (v := 4) hx hb d_Mo_holds_4 (by decide) ?_
  refine lv_irem hx hb d_Mo_holds_5 (by decide) ?_
  refine lv_iadd hx hb d_Mo_holds_6 ?_
  refine lv_istore_n (lv' := [(3, .int _), (0, .ref _), (1, .int _), (2, .int _)]) hx hb d_Mo_holds_7 rfl hl (by decide) rfl (fun ls hl => ?_)
  refine lv_aload_n hx hb d_Mo_holds_8 rfl (lv_at hl 1 rfl) ?_
  refine va_get (ci := 5) (C := R_Mo) (T := F_Mo) (N := 18) hx hb hg in_Mo hown hK hP 0 rfl rfl 5 (by decide) (hg _ m_508) (fun _ h => h) rfl d_Mo_holds_9 ?_
  refine lv_iload_n hx hb d_Mo_holds_12 rfl (lv_at hl 0 rfl) ?_
  refine va_lald hx hb hK hP 5 1 rfl rfl (at_in h_cc h_w) d_Mo_holds_13 ?_
  refine cj_i (wc := []) (w1 := []) hP hD hS hA [] rfl [] rfl rfl (va_runS (rest := []) ⟨hx, hb, hml, hown, hg⟩ (c_Mo_isOdd l D cI cL  _ (li (((4 : Int32) * cc) + (u_rem w (4 : Int32))).toNatClampNeg)) ⟨callB_of 1 hg (gw_good m_606) rfl rfl rfl (hg _ m_71) (hg _ m_604) hd_Mo_isOdd ⟨Nat.le_of_ble_eq_true rfl, Nat.le_of_ble_eq_true rfl⟩, hg _ m_605⟩ (pw_S hK hN hT hA hP hD hS [] rfl (by decide)) rfl rfl hl.1 rfl (lv_room (Nat.le_of_ble_eq_true rfl)) d_Mo_holds_14 ⟨Nat.le_of_ble_eq_true rfl, Nat.le_of_ble_eq_true rfl⟩) (fun H locs hP hD hS => ?_)
  have hP : va_P D classes (W_Mo cI cL b0 b1 b2 b3 b4 b5 b6 b7 ev wr wg ke ma li ps pn cy ca va cn pp px go ne gi gn) H := hP
  have hD : va_D A (W_Mo cI cL b0 b1 b2 b3 b4 b5 b6 b7 ev wr wg ke ma li ps pn cy ca va cn pp px go ne gi gn) := hD
  refine lv_if_eq (tgt := 39) hx hb d_Mo_holds_17 (by decide) (fun h17 => ?_) (fun h17 => ?_)
  · refine lv_aload_n hx hb d_Mo_holds_39 rfl (lv_at hl 1 rfl) ?_
    refine va_get (ci := 5) (C := R_Mo) (T := F_Mo) (N := 18) hx hb hg in_Mo hown hK hP 0 rfl rfl 5 (by decide) (hg _ m_508) (fun _ h => h) rfl d_Mo_holds_40 ?_
    refine lv_iload_n hx hb d_Mo_holds_43 rfl (lv_at hl 0 rfl) ?_
    refine va_lald hx hb hK hP 5 1 rfl rfl (at_in h_cc h_w) d_Mo_holds_44 ?_
    refine lv_bipush (v := 36) hx hb d_Mo_holds_45 (by decide) ?_
    refine lv_lshr (v := u_lshr _ _) hx hb d_Mo_holds_47 rfl ?_
    refine lv_lconst (v := 1) hx hb d_Mo_holds_48 (by decide) ?_
    refine lv_land hx hb d_Mo_holds_49 ?_
    refine lv_lconst (v := 1) hx hb d_Mo_holds_50 (by decide) ?_
    refine W.lcmp hx hb d_Mo_holds_51 ?_
    refine lv_if_ne (tgt := 79) hx hb d_Mo_holds_52 (by decide) (fun h52 => ?_) (fun h52 => ?_)
    · refine lv_iconst (v := 0) hx hb d_Mo_holds_79 (by decide) ?_
      rw [f_Mo_holds_e0 li cn cc w h17 h52]
      exact W.zret hx hb hr rfl (fun t ht hW => ⟨⟨_, (), rfl, rfl, by show va_P D classes _ t.heap; rw [ht]; exact hP⟩, hS.F ht⟩) hS.2.2 d_Mo_holds_80 hlocks
    · refine lv_aload_n hx hb d_Mo_holds_55 rfl (lv_at hl 1 rfl) ?_
      refine va_get (ci := 5) (C := R_Mo) (T := F_Mo) (N := 18) hx hb hg in_Mo hown hK hP 0 rfl rfl 5 (by decide) (hg _ m_508) (fun _ h => h) rfl d_Mo_holds_56 ?_
      refine lv_iload_n hx hb d_Mo_holds_59 rfl (lv_at hl 0 rfl) ?_
      refine va_lald hx hb hK hP 5 1 rfl rfl (at_in h_cc h_w) d_Mo_holds_60 ?_
      refine lv_bipush (v := 32) hx hb d_Mo_holds_61 (by decide) ?_
      refine lv_lshr (v := u_lshr _ _) hx hb d_Mo_holds_63 rfl ?_
      refine lv_ldc2 hx hb hown (hg _ m_607) d_Mo_holds_64 ?_
      refine lv_land hx hb d_Mo_holds_67 ?_
      refine lv_l2i hx hb d_Mo_holds_68 rfl ?_
      refine lv_iload_n hx hb d_Mo_holds_69 rfl (lv_at hl 3 rfl) ?_
      refine lv_iconst (v := 4) hx hb d_Mo_holds_70 (by decide) ?_
      refine lv_idiv hx hb d_Mo_holds_71 (by decide) ?_
      refine lv_icmp_ne (tgt := 79) hx hb d_Mo_holds_72 (by decide) (fun h72 => ?_) (fun h72 => ?_)
      · refine lv_iconst (v := 0) hx hb d_Mo_holds_79 (by decide) ?_
        rw [f_Mo_holds_e1 li cn cc w h17 h52 h72]
        exact W.zret hx hb hr rfl (fun t ht hW => ⟨⟨_, (), rfl, rfl, by show va_P D classes _ t.heap; rw [ht]; exact hP⟩, hS.F ht⟩) hS.2.2 d_Mo_holds_80 hlocks
      · refine lv_iconst (v := 1) hx hb d_Mo_holds_75 (by decide) ?_
        refine lv_goto (tgt := 80) hx hb d_Mo_holds_76 (by decide) ?_
        rw [f_Mo_holds_e2 li cn cc w h17 h52 h72]
        exact W.zret hx hb hr rfl (fun t ht hW => ⟨⟨_, (), rfl, rfl, by show va_P D classes _ t.heap; rw [ht]; exact hP⟩, hS.F ht⟩) hS.2.2 d_Mo_holds_80 hlocks
  · refine lv_aload_n hx hb d_Mo_holds_20 rfl (lv_at hl 1 rfl) ?_
    refine va_get (ci := 5) (C := R_Mo) (T := F_Mo) (N := 18) hx hb hg in_Mo hown hK hP 0 rfl rfl 5 (by decide) (hg _ m_508) (fun _ h => h) rfl d_Mo_holds_21 ?_
    refine lv_iload_n hx hb d_Mo_holds_24 rfl (lv_at hl 0 rfl) ?_
    refine lv_lconst (v := 0) hx hb d_Mo_holds_25 (by decide) ?_
    refine va_last hx hb hK hP hD hS 5 1 rfl rfl (at_in h_cc h_w) d_Mo_holds_26 (fun H locs hP hD hS => ?_)
    have hP : va_P D classes (W_Mo cI cL b0 b1 b2 b3 b4 b5 b6 b7 ev wr wg ke ma (vp_updL li (((4 : Int32) * cc) + (u_rem w (4 : Int32))).toNatClampNeg (0 : Int64)) ps pn cy ca va cn pp px go ne gi gn) H := hP
    have hD : va_D A (W_Mo cI cL b0 b1 b2 b3 b4 b5 b6 b7 ev wr wg ke ma (vp_updL li (((4 : Int32) * cc) + (u_rem w (4 : Int32))).toNatClampNeg (0 : Int64)) ps pn cy ca va cn pp px go ne gi gn) := hD
    refine lv_aload_n hx hb d_Mo_holds_27 rfl (lv_at hl 1 rfl) ?_
    refine va_get (ci := 5) (C := R_Mo) (T := F_Mo) (N := 18) hx hb hg in_Mo hown hK hP 0 rfl rfl 11 (by decide) (hg _ m_514) (fun _ h => h) rfl d_Mo_holds_28 ?_
    refine lv_iconst (v := 3) hx hb d_Mo_holds_31 (by decide) ?_
    refine lv_iload_n hx hb d_Mo_holds_32 rfl (lv_at hl 2 rfl) ?_
    refine lv_iadd hx hb d_Mo_holds_33 ?_
    refine lv_dup2_11 hx hb d_Mo_holds_34 rfl rfl ?_
    refine va_iald hx hb hK hP 7 0 rfl rfl (cn_in h_cc) d_Mo_holds_35 ?_
    refine lv_iconst (v := 1) hx hb d_Mo_holds_36 (by decide) ?_
    refine lv_iadd hx hb d_Mo_holds_37 ?_
    refine va_iast hx hb hK hP hD hS 7 0 rfl rfl (cn_in h_cc) d_Mo_holds_38 (fun H locs hP hD hS => ?_)
    have hP : va_P D classes (W_Mo cI cL b0 b1 b2 b3 b4 b5 b6 b7 ev wr wg ke ma (vp_updL li (((4 : Int32) * cc) + (u_rem w (4 : Int32))).toNatClampNeg (0 : Int64)) ps pn cy ca va (upd cn ((3 : Int32) + cc).toNatClampNeg ((cn ((3 : Int32) + cc).toNatClampNeg) + (1 : Int32))) pp px go ne gi gn) H := hP
    have hD : va_D A (W_Mo cI cL b0 b1 b2 b3 b4 b5 b6 b7 ev wr wg ke ma (vp_updL li (((4 : Int32) * cc) + (u_rem w (4 : Int32))).toNatClampNeg (0 : Int64)) ps pn cy ca va (upd cn ((3 : Int32) + cc).toNatClampNeg ((cn ((3 : Int32) + cc).toNatClampNeg) + (1 : Int32))) pp px go ne gi gn) := hD
    refine lv_aload_n hx hb d_Mo_holds_39 rfl (lv_at hl 1 rfl) ?_
    refine va_get (ci := 5) (C := R_Mo) (T := F_Mo) (N := 18) hx hb hg in_Mo hown hK hP 0 rfl rfl 5 (by decide) (hg _ m_508) (fun _ h => h) rfl d_Mo_holds_40 ?_
    refine lv_iload_n hx hb d_Mo_holds_43 rfl (lv_at hl 0 rfl) ?_
    refine va_lald hx hb hK hP 5 1 rfl rfl (at_in h_cc h_w) d_Mo_holds_44 ?_
    refine lv_bipush (v := 36) hx hb d_Mo_holds_45 (by decide) ?_
    refine lv_lshr (v := u_lshr _ _) hx hb d_Mo_holds_47 rfl ?_
    refine lv_lconst (v := 1) hx hb d_Mo_holds_48 (by decide) ?_
    refine lv_land hx hb d_Mo_holds_49 ?_
    refine lv_lconst (v := 1) hx hb d_Mo_holds_50 (by decide) ?_
    refine W.lcmp hx hb d_Mo_holds_51 ?_
    refine lv_if_ne (tgt := 79) hx hb d_Mo_holds_52 (by decide) (fun h52 => ?_) (fun h52 => ?_)
    · refine lv_iconst (v := 0) hx hb d_Mo_holds_79 (by decide) ?_
      rw [f_Mo_holds_e3 li cn cc w h17 h52]
      exact W.zret hx hb hr rfl (fun t ht hW => ⟨⟨_, (), rfl, rfl, by show va_P D classes _ t.heap; rw [ht]; exact hP⟩, hS.F ht⟩) hS.2.2 d_Mo_holds_80 hlocks
    · refine lv_aload_n hx hb d_Mo_holds_55 rfl (lv_at hl 1 rfl) ?_
      refine va_get (ci := 5) (C := R_Mo) (T := F_Mo) (N := 18) hx hb hg in_Mo hown hK hP 0 rfl rfl 5 (by decide) (hg _ m_508) (fun _ h => h) rfl d_Mo_holds_56 ?_
      refine lv_iload_n hx hb d_Mo_holds_59 rfl (lv_at hl 0 rfl) ?_
      refine va_lald hx hb hK hP 5 1 rfl rfl (at_in h_cc h_w) d_Mo_holds_60 ?_
      refine lv_bipush (v := 32) hx hb d_Mo_holds_61 (by decide) ?_
      refine lv_lshr (v := u_lshr _ _) hx hb d_Mo_holds_63 rfl ?_
      refine lv_ldc2 hx hb hown (hg _ m_607) d_Mo_holds_64 ?_
      refine lv_land hx hb d_Mo_holds_67 ?_
      refine lv_l2i hx hb d_Mo_holds_68 rfl ?_
      refine lv_iload_n hx hb d_Mo_holds_69 rfl (lv_at hl 3 rfl) ?_
      refine lv_iconst (v := 4) hx hb d_Mo_holds_70 (by decide) ?_
      refine lv_idiv hx hb d_Mo_holds_71 (by decide) ?_
      refine lv_icmp_ne (tgt := 79) hx hb d_Mo_holds_72 (by decide) (fun h72 => ?_) (fun h72 => ?_)
      · refine lv_iconst (v := 0) hx hb d_Mo_holds_79 (by decide) ?_
        rw [f_Mo_holds_e4 li cn cc w h17 h52 h72]
        exact W.zret hx hb hr rfl (fun t ht hW => ⟨⟨_, (), rfl, rfl, by show va_P D classes _ t.heap; rw [ht]; exact hP⟩, hS.F ht⟩) hS.2.2 d_Mo_holds_80 hlocks
      · refine lv_iconst (v := 1) hx hb d_Mo_holds_75 (by decide) ?_
        refine lv_goto (tgt := 80) hx hb d_Mo_holds_76 (by decide) ?_
        rw [f_Mo_holds_e5 li cn cc w h17 h52 h72]
        exact W.zret hx hb hr rfl (fun t ht hW => ⟨⟨_, (), rfl, rfl, by show va_P D classes _ t.heap; rw [ht]; exact hP⟩, hS.F ht⟩) hS.2.2 d_Mo_holds_80 hlocks
abbrev q_Mo_fetch (D : va_G) (cI cL : ClassId) (b0 b1 b2 b3 b4 b5 b6 b7 : Nat) (A : Nat → Prop) (ev : Int32) (wr : Nat → Int32) (wg : Nat → Int64) (ke : Nat → Int32) (ma : Nat → Int32) (li : Nat → Int64) (ps : Int32) (pn : Nat → Int32) (cy : Int32) (ca : Int32) (va : Int32) (cn : Nat → Int32) (pp : Int32) (px : Int32) (go : Int32) (ne : Int32) (gi : Int32) (gn : Int32) (F : Int32 × (Nat → Int64) × (Nat → Int64) × Int32 × Int32 × (Nat → Int32) × Int32) : Array Value → State → Outcome → State → Prop := va_Qi (fun r (_ : Unit) => r = F.1) (fun _ t => va_P D classes (W_Mo cI cL b0 b1 b2 b3 b4 b5 b6 b7 ev wr F.2.1 ke ma F.2.2.1 ps pn cy F.2.2.2.1 F.2.2.2.2.1 F.2.2.2.2.2.1 pp px F.2.2.2.2.2.2 ne gi gn) t.heap) A
theorem f_Mo_fetch_e0 (wr : Nat → Int32) (wg : Nat → Int64) (li : Nat → Int64) (ca : Int32) (va : Int32) (cn : Nat → Int32) (go : Int32) (cc : Int32) (w : Int32) (t1 : Int32 × (Nat → Int64) × (Nat → Int32)) (e_t1 : f_Mo_holds li cn cc w = t1) (h14 : ¬ t1.1 = 0) : f_Mo_fetch wr wg li ca va cn go cc w = ((1 : Int32), wg, t1.2.1, ca, va, t1.2.2, ((t1.2.1 (((4 : Int32) * cc) + (u_rem w (4 : Int32))).toNatClampNeg).toInt32)) := by
  subst e_t1
  exact (if_neg h14)
theorem f_Mo_fetch_e1 (wr : Nat → Int32) (wg : Nat → Int64) (li : Nat → Int64) (ca : Int32) (va : Int32) (cn : Nat → Int32) (go : Int32) (cc : Int32) (w : Int32) (t1 : Int32 × (Nat → Int64) × (Nat → Int32)) (t2 : Int32 × (Nat → Int64) × (Nat → Int32)) (e_t1 : f_Mo_holds li cn cc w = t1) (e_t2 : f_Mo_mend wg t1.2.2 w = t2) (h14 : t1.1 = 0) (h22 : ¬ t2.1 = 0) : f_Mo_fetch wr wg li ca va cn go cc w = ((1 : Int32), t2.2.1, (vp_updL t1.2.1 (((4 : Int32) * cc) + (u_rem w (4 : Int32))).toNatClampNeg (f_Mo_line ((wr w.toNatClampNeg) ^^^ (f_Mo_dataOf (t2.2.1 w.toNatClampNeg))) (w / (4 : Int32)))), ca, va, t2.2.2, (((vp_updL t1.2.1 (((4 : Int32) * cc) + (u_rem w (4 : Int32))).toNatClampNeg (f_Mo_line ((wr w.toNatClampNeg) ^^^ (f_Mo_dataOf (t2.2.1 w.toNatClampNeg))) (w / (4 : Int32)))) (((4 : Int32) * cc) + (u_rem w (4 : Int32))).toNatClampNeg).toInt32)) := by
  subst e_t2
  subst e_t1
  exact ((if_pos h14).trans (if_neg h22))
theorem f_Mo_fetch_e2 (wr : Nat → Int32) (wg : Nat → Int64) (li : Nat → Int64) (ca : Int32) (va : Int32) (cn : Nat → Int32) (go : Int32) (cc : Int32) (w : Int32) (t1 : Int32 × (Nat → Int64) × (Nat → Int32)) (t2 : Int32 × (Nat → Int64) × (Nat → Int32)) (t3 : Int32 × Int32) (e_t1 : f_Mo_holds li cn cc w = t1) (e_t2 : f_Mo_mend wg t1.2.2 w = t2) (e_t3 : f_Mo_stop ca va (5 : Int32) w = t3) (h14 : t1.1 = 0) (h22 : t2.1 = 0) : f_Mo_fetch wr wg li ca va cn go cc w = ((0 : Int32), t2.2.1, t1.2.1, t3.1, t3.2, t2.2.2, go) := by
  subst e_t3
  subst e_t2
  subst e_t1
  exact ((if_pos h14).trans (if_pos h22))
set_option maxHeartbeats 4000000 in
set_option maxRecDepth 100000 in
theorem c_Mo_fetch (l : Launch) (D : va_G) (cI cL : ClassId) (b0 b1 b2 b3 b4 b5 b6 b7 : Nat) (sz : Nat) (ev : Int32) (wr : Nat → Int32) (wg : Nat → Int64) (ke : Nat → Int32) (ma : Nat → Int32) (li : Nat → Int64) (ps : Int32) (pn : Nat → Int32) (cy : Int32) (ca : Int32) (va : Int32) (cn : Nat → Int32) (pp : Int32) (px : Int32) (go : Int32) (ne : Int32) (gi : Int32) (gn : Int32) (cc : Int32) (w : Int32) (h_cc : vp_in cc 2) (h_w : vp_in w 64) : Met l y_Mo_fetch w_Mo_fetch ({ frames := 3, cells := 0, slots := 0, locals := 67 }) (va_Pc [.ref b0, .int cc, .int w] (PW D cI cL (W_Mo cI cL b0 b1 b2 b3 b4 b5 b6 b7 ev wr wg ke ma li ps pn cy ca va cn pp px go ne gi gn) sz)) (q_Mo_fetch D cI cL b0 b1 b2 b3 b4 b5 b6 b7 (va_A (W_Mo cI cL b0 b1 b2 b3 b4 b5 b6 b7 ev wr wg ke ma li ps pn cy ca va cn pp px go ne gi gn) sz) ev wr wg ke ma li ps pn cy ca va cn pp px go ne gi gn (f_Mo_fetch wr wg li ca va cn go cc w)) 0 0 (va_A (W_Mo cI cL b0 b1 b2 b3 b4 b5 b6 b7 ev wr wg ke ma li ps pn cy ca va cn pp px go ne gi gn) sz) := by
  refine mk_met (Qf := fun A => q_Mo_fetch D cI cL b0 b1 b2 b3 b4 b5 b6 b7 A ev wr wg ke ma li ps pn cy ca va cn pp px go ne gi gn (f_Mo_fetch wr wg li ca va cn go cc w)) (by decide) (Nat.le_of_ble_eq_true rfl) ?_
  intro p e s m below meth c A ls hx hb hr hlocks hml hown hg hK hN hT hA hP hD hS hnm hl
  refine lv_iconst (v := 4) hx hb d_Mo_fetch_0 (by decide) ?_
  refine lv_iload_n hx hb d_Mo_fetch_1 rfl (lv_at hl 1 rfl) ?_
  refine lv_imul hx hb d_Mo_fetch_2 ?_
  refine lv_iload_n hx hb d_Mo_fetch_3 rfl (lv_at hl 2 rfl) ?_
  refine lv_iconst (v := 4) hx hb d_Mo_fetch_4 (by decide) ?_
  refine lv_irem hx hb d_Mo_fetch_5 (by decide) ?_
  refine lv_iadd hx hb d_Mo_fetch_6 ?_
  refine lv_istore_n (lv' := [(3, .int _), (0, .ref _), (1, .int _), (2, .int _)]) hx hb d_Mo_fetch_7 rfl hl (by decide) rfl (fun ls hl => ?_)
  refine lv_aload_n hx hb d_Mo_fetch_8 rfl (lv_at hl 1 rfl) ?_
  refine lv_iload_n hx hb d_Mo_fetch_9 rfl (lv_at hl 2 rfl) ?_
  refine lv_iload_n hx hb d_Mo_fetch_10 rfl (lv_at hl 3 rfl) ?_
  refine cj_i (wc := (W_Mo cI cL b0 b1 b2 b3 b4 b5 b6 b7 ev wr wg ke ma li ps pn cy ca va cn pp px go ne gi gn)) (w1 := (W_Mo cI cL b0 b1 b2 b3 b4 b5 b6 b7 ev wr wg ke ma ((f_Mo_holds li cn cc w).2.1) ps pn cy ca va ((f_Mo_holds li cn cc w).2.2) pp px go ne gi gn)) hP hD hS hA [0, 1, 2, 3, 4, 5, 6, 7] rfl [b0, b1, b2, b3, b4, b5, b6, b7] rfl rfl (va_runV (rest := []) ⟨hx, hb, hml, hown, hg⟩ (c_Mo_holds l D cI cL b0 b1 b2 b3 b4 b5 b6 b7 _ ev wr wg ke ma li ps pn cy ca va cn pp px go ne gi gn cc w h_cc h_w) ⟨callB_of 2 hg (gw_good m_603) rfl rfl rfl (hg _ m_71) (hg _ m_600) hd_Mo_holds ⟨Nat.le_of_ble_eq_true rfl, Nat.le_of_ble_eq_true rfl⟩, hg _ m_602, hg _ m_42⟩ (pw_V hK hN hT hA hP hD hS [0, 1, 2, 3, 4, 5, 6, 7] rfl (by decide) (q0 := 0) (ci := 5) rfl rfl) rfl rfl hl.1 rfl (lv_room (Nat.le_of_ble_eq_true rfl)) d_Mo_fetch_11 ⟨Nat.le_of_ble_eq_true rfl, Nat.le_of_ble_eq_true rfl⟩) (fun H locs hP hD hS => ?_)
  have hP : va_P D classes (W_Mo cI cL b0 b1 b2 b3 b4 b5 b6 b7 ev wr wg ke ma ((f_Mo_holds li cn cc w).2.1) ps pn cy ca va ((f_Mo_holds li cn cc w).2.2) pp px go ne gi gn) H := hP
  have hD : va_D A (W_Mo cI cL b0 b1 b2 b3 b4 b5 b6 b7 ev wr wg ke ma ((f_Mo_holds li cn cc w).2.1) ps pn cy ca va ((f_Mo_holds li cn cc w).2.2) pp px go ne gi gn) := hD
  generalize e_t1 : f_Mo_holds li cn cc w = t1 at hP hD ⊢
  obtain ⟨t1_0, t1_1, t1_2⟩ := t1
  have hP : va_P D classes (W_Mo cI cL b0 b1 b2 b3 b4 b5 b6 b7 ev wr wg ke ma t1_1 ps pn cy ca va t1_2 pp px go ne gi gn) H := hP
  have hD : va_D A (W_Mo cI cL b0 b1 b2 b3 b4 b5 b6 b7 ev wr wg ke ma t1_1 ps pn cy ca va t1_2 pp px go ne gi gn) := hD
  refine W.eq (g2 := F0 m 14 ls (.int t1_0 :: [])) rfl ?_
  refine lv_if_ne (tgt := 61) hx hb d_Mo_fetch_14 (by decide) (fun h14 => ?_) (fun h14 => ?_)
  · refine lv_aload_n hx hb d_Mo_fetch_61 rfl (lv_at hl 1 rfl) ?_
    refine lv_aload_n hx hb d_Mo_fetch_62 rfl (lv_at hl 1 rfl) ?_
    refine va_get (ci := 5) (C := R_Mo) (T := F_Mo) (N := 18) hx hb hg in_Mo hown hK hP 0 rfl rfl 5 (by decide) (hg _ m_508) (fun _ h => h) rfl d_Mo_fetch_63 ?_
    refine lv_iload_n hx hb d_Mo_fetch_66 rfl (lv_at hl 0 rfl) ?_
    refine va_lald hx hb hK hP 5 1 rfl rfl (at_in h_cc h_w) d_Mo_fetch_67 ?_
    refine lv_l2i hx hb d_Mo_fetch_68 rfl ?_
    refine va_put (ci := 5) (ty := .int) (C := R_Mo) (T := F_Mo) (N := 18) hx hb hg in_Mo t_Mo t_Mo_ok n_Mo hown hK hP hD hS 0 rfl rfl 14 (by decide) (hg _ m_517) (fun _ h => h) rfl (by decide +kernel) rfl rfl (Nat.le_of_ble_eq_true rfl) d_Mo_fetch_69 (fun H locs hP hD hS => ?_)
    have hP : va_P D classes (W_Mo cI cL b0 b1 b2 b3 b4 b5 b6 b7 ev wr wg ke ma t1_1 ps pn cy ca va t1_2 pp px ((t1_1 (((4 : Int32) * cc) + (u_rem w (4 : Int32))).toNatClampNeg).toInt32) ne gi gn) H := hP
    have hD : va_D A (W_Mo cI cL b0 b1 b2 b3 b4 b5 b6 b7 ev wr wg ke ma t1_1 ps pn cy ca va t1_2 pp px ((t1_1 (((4 : Int32) * cc) + (u_rem w (4 : Int32))).toNatClampNeg).toInt32) ne gi gn) := hD
    refine lv_iconst (v := 1) hx hb d_Mo_fetch_72 (by decide) ?_
    rw [f_Mo_fetch_e0 wr wg li ca va cn go cc w (t1_0, t1_1, t1_2) e_t1 h14]
    exact W.zret hx hb hr rfl (fun t ht hW => ⟨⟨_, (), rfl, rfl, by show va_P D classes _ t.heap; rw [ht]; exact hP⟩, hS.F ht⟩) hS.2.2 d_Mo_fetch_73 hlocks
  · refine lv_aload_n hx hb d_Mo_fetch_17 rfl (lv_at hl 1 rfl) ?_
    refine lv_iload_n hx hb d_Mo_fetch_18 rfl (lv_at hl 3 rfl) ?_
    refine cj_i (wc := (W_Mo cI cL b0 b1 b2 b3 b4 b5 b6 b7 ev wr wg ke ma t1_1 ps pn cy ca va t1_2 pp px go ne gi gn)) (w1 := (W_Mo cI cL b0 b1 b2 b3 b4 b5 b6 b7 ev wr ((f_Mo_mend wg t1_2 w).2.1) ke ma t1_1 ps pn cy ca va ((f_Mo_mend wg t1_2 w).2.2) pp px go ne gi gn)) hP hD hS hA [0, 1, 2, 3, 4, 5, 6, 7] rfl [b0, b1, b2, b3, b4, b5, b6, b7] rfl rfl (va_runV (rest := []) ⟨hx, hb, hml, hown, hg⟩ (c_Mo_mend l D cI cL b0 b1 b2 b3 b4 b5 b6 b7 _ ev wr wg ke ma t1_1 ps pn cy ca va t1_2 pp px go ne gi gn w h_w) ⟨callB_of 1 hg (gw_good m_611) rfl rfl rfl (hg _ m_71) (hg _ m_608) hd_Mo_mend ⟨Nat.le_of_ble_eq_true rfl, Nat.le_of_ble_eq_true rfl⟩, hg _ m_610, hg _ m_43⟩ (pw_V hK hN hT hA hP hD hS [0, 1, 2, 3, 4, 5, 6, 7] rfl (by decide) (q0 := 0) (ci := 5) rfl rfl) rfl rfl hl.1 rfl (lv_room (Nat.le_of_ble_eq_true rfl)) d_Mo_fetch_19 ⟨Nat.le_of_ble_eq_true rfl, Nat.le_of_ble_eq_true rfl⟩) (fun H locs hP hD hS => ?_)
    have hP : va_P D classes (W_Mo cI cL b0 b1 b2 b3 b4 b5 b6 b7 ev wr ((f_Mo_mend wg t1_2 w).2.1) ke ma t1_1 ps pn cy ca va ((f_Mo_mend wg t1_2 w).2.2) pp px go ne gi gn) H := hP
    have hD : va_D A (W_Mo cI cL b0 b1 b2 b3 b4 b5 b6 b7 ev wr ((f_Mo_mend wg t1_2 w).2.1) ke ma t1_1 ps pn cy ca va ((f_Mo_mend wg t1_2 w).2.2) pp px go ne gi gn) := hD
    generalize e_t2 : f_Mo_mend wg t1_2 w = t2 at hP hD ⊢
    obtain ⟨t2_0, t2_1, t2_2⟩ := t2
    have hP : va_P D classes (W_Mo cI cL b0 b1 b2 b3 b4 b5 b6 b7 ev wr t2_1 ke ma t1_1 ps pn cy ca va t2_2 pp px go ne gi gn) H := hP
    have hD : va_D A (W_Mo cI cL b0 b1 b2 b3 b4 b5 b6 b7 ev wr t2_1 ke ma t1_1 ps pn cy ca va t2_2 pp px go ne gi gn) := hD
    refine W.eq (g2 := F0 m 22 ls (.int t2_0 :: [])) rfl ?_
    refine lv_if_ne (tgt := 33) hx hb d_Mo_fetch_22 (by decide) (fun h22 => ?_) (fun h22 => ?_)
    · refine lv_aload_n hx hb d_Mo_fetch_33 rfl (lv_at hl 1 rfl) ?_
      refine va_get (ci := 5) (C := R_Mo) (T := F_Mo) (N := 18) hx hb hg in_Mo hown hK hP 0 rfl rfl 5 (by decide) (hg _ m_508) (fun _ h => h) rfl d_Mo_fetch_34 ?_
      refine lv_iload_n hx hb d_Mo_fetch_37 rfl (lv_at hl 0 rfl) ?_
      refine lv_aload_n hx hb d_Mo_fetch_38 rfl (lv_at hl 1 rfl) ?_
      refine va_get (ci := 5) (C := R_Mo) (T := F_Mo) (N := 18) hx hb hg in_Mo hown hK hP 0 rfl rfl 1 (by decide) (hg _ m_504) (fun _ h => h) rfl d_Mo_fetch_39 ?_
      refine lv_iload_n hx hb d_Mo_fetch_42 rfl (lv_at hl 3 rfl) ?_
      refine va_iald hx hb hK hP 1 0 rfl rfl h_w d_Mo_fetch_43 ?_
      refine lv_aload_n hx hb d_Mo_fetch_44 rfl (lv_at hl 1 rfl) ?_
      refine va_get (ci := 5) (C := R_Mo) (T := F_Mo) (N := 18) hx hb hg in_Mo hown hK hP 0 rfl rfl 2 (by decide) (hg _ m_505) (fun _ h => h) rfl d_Mo_fetch_45 ?_
      refine lv_iload_n hx hb d_Mo_fetch_48 rfl (lv_at hl 3 rfl) ?_
      refine va_lald hx hb hK hP 2 1 rfl rfl h_w d_Mo_fetch_49 ?_
      refine cj_i (wc := []) (w1 := []) hP hD hS hA [] rfl [] rfl rfl (va_runS (rest := [.int _, .int _, .ref _]) ⟨hx, hb, hml, hown, hg⟩ (c_Mo_dataOf l D cI cL  _ (t2_1 w.toNatClampNeg)) ⟨callB_of 1 hg (gw_good m_620) rfl rfl rfl (hg _ m_71) (hg _ m_618) hd_Mo_dataOf ⟨Nat.le_of_ble_eq_true rfl, Nat.le_of_ble_eq_true rfl⟩, hg _ m_619⟩ (pw_S hK hN hT hA hP hD hS [] rfl (by decide)) rfl rfl hl.1 rfl (lv_room (Nat.le_of_ble_eq_true rfl)) d_Mo_fetch_50 ⟨Nat.le_of_ble_eq_true rfl, Nat.le_of_ble_eq_true rfl⟩) (fun H locs hP hD hS => ?_)
      have hP : va_P D classes (W_Mo cI cL b0 b1 b2 b3 b4 b5 b6 b7 ev wr t2_1 ke ma t1_1 ps pn cy ca va t2_2 pp px go ne gi gn) H := hP
      have hD : va_D A (W_Mo cI cL b0 b1 b2 b3 b4 b5 b6 b7 ev wr t2_1 ke ma t1_1 ps pn cy ca va t2_2 pp px go ne gi gn) := hD
      refine lv_ixor hx hb d_Mo_fetch_53 ?_
      refine lv_iload_n hx hb d_Mo_fetch_54 rfl (lv_at hl 3 rfl) ?_
      refine lv_iconst (v := 4) hx hb d_Mo_fetch_55 (by decide) ?_
      refine lv_idiv hx hb d_Mo_fetch_56 (by decide) ?_
      refine cj_l (wc := []) (w1 := []) hP hD hS hA [] rfl [] rfl rfl (va_runS (rest := [.int _, .ref _]) ⟨hx, hb, hml, hown, hg⟩ (c_Mo_line l D cI cL  _ ((wr w.toNatClampNeg) ^^^ (f_Mo_dataOf (t2_1 w.toNatClampNeg))) (w / (4 : Int32))) ⟨callB_of 2 hg (gw_good m_626) rfl rfl rfl (hg _ m_71) (hg _ m_624) hd_Mo_line ⟨Nat.le_of_ble_eq_true rfl, Nat.le_of_ble_eq_true rfl⟩, hg _ m_625⟩ (pw_S hK hN hT hA hP hD hS [] rfl (by decide)) rfl rfl hl.1 rfl (lv_room (Nat.le_of_ble_eq_true rfl)) d_Mo_fetch_57 ⟨Nat.le_of_ble_eq_true rfl, Nat.le_of_ble_eq_true rfl⟩) (fun H locs hP hD hS => ?_)
      have hP : va_P D classes (W_Mo cI cL b0 b1 b2 b3 b4 b5 b6 b7 ev wr t2_1 ke ma t1_1 ps pn cy ca va t2_2 pp px go ne gi gn) H := hP
      have hD : va_D A (W_Mo cI cL b0 b1 b2 b3 b4 b5 b6 b7 ev wr t2_1 ke ma t1_1 ps pn cy ca va t2_2 pp px go ne gi gn) := hD
      refine va_last hx hb hK hP hD hS 5 1 rfl rfl (at_in h_cc h_w) d_Mo_fetch_60 (fun H locs hP hD hS => ?_)
      have hP : va_P D classes (W_Mo cI cL b0 b1 b2 b3 b4 b5 b6 b7 ev wr t2_1 ke ma (vp_updL t1_1 (((4 : Int32) * cc) + (u_rem w (4 : Int32))).toNatClampNeg (f_Mo_line ((wr w.toNatClampNeg) ^^^ (f_Mo_dataOf (t2_1 w.toNatClampNeg))) (w / (4 : Int32)))) ps pn cy ca va t2_2 pp px go ne gi gn) H := hP
      have hD : va_D A (W_Mo cI cL b0 b1 b2 b3 b4 b5 b6 b7 ev wr t2_1 ke ma (vp_updL t1_1 (((4 : Int32) * cc) + (u_rem w (4 : Int32))).toNatClampNeg (f_Mo_line ((wr w.toNatClampNeg) ^^^ (f_Mo_dataOf (t2_1 w.toNatClampNeg))) (w / (4 : Int32)))) ps pn cy ca va t2_2 pp px go ne gi gn) := hD
      refine lv_aload_n hx hb d_Mo_fetch_61 rfl (lv_at hl 1 rfl) ?_
      refine lv_aload_n hx hb d_Mo_fetch_62 rfl (lv_at hl 1 rfl) ?_
      refine va_get (ci := 5) (C := R_Mo) (T := F_Mo) (N := 18) hx hb hg in_Mo hown hK hP 0 rfl rfl 5 (by decide) (hg _ m_508) (fun _ h => h) rfl d_Mo_fetch_63 ?_
      refine lv_iload_n hx hb d_Mo_fetch_66 rfl (lv_at hl 0 rfl) ?_
      refine va_lald hx hb hK hP 5 1 rfl rfl (at_in h_cc h_w) d_Mo_fetch_67 ?_
      refine lv_l2i hx hb d_Mo_fetch_68 rfl ?_
      refine va_put (ci := 5) (ty := .int) (C := R_Mo) (T := F_Mo) (N := 18) hx hb hg in_Mo t_Mo t_Mo_ok n_Mo hown hK hP hD hS 0 rfl rfl 14 (by decide) (hg _ m_517) (fun _ h => h) rfl (by decide +kernel) rfl rfl (Nat.le_of_ble_eq_true rfl) d_Mo_fetch_69 (fun H locs hP hD hS => ?_)
      have hP : va_P D classes (W_Mo cI cL b0 b1 b2 b3 b4 b5 b6 b7 ev wr t2_1 ke ma (vp_updL t1_1 (((4 : Int32) * cc) + (u_rem w (4 : Int32))).toNatClampNeg (f_Mo_line ((wr w.toNatClampNeg) ^^^ (f_Mo_dataOf (t2_1 w.toNatClampNeg))) (w / (4 : Int32)))) ps pn cy ca va t2_2 pp px (((vp_updL t1_1 (((4 : Int32) * cc) + (u_rem w (4 : Int32))).toNatClampNeg (f_Mo_line ((wr w.toNatClampNeg) ^^^ (f_Mo_dataOf (t2_1 w.toNatClampNeg))) (w / (4 : Int32)))) (((4 : Int32) * cc) + (u_rem w (4 : Int32))).toNatClampNeg).toInt32) ne gi gn) H := hP
      have hD : va_D A (W_Mo cI cL b0 b1 b2 b3 b4 b5 b6 b7 ev wr t2_1 ke ma (vp_updL t1_1 (((4 : Int32) * cc) + (u_rem w (4 : Int32))).toNatClampNeg (f_Mo_line ((wr w.toNatClampNeg) ^^^ (f_Mo_dataOf (t2_1 w.toNatClampNeg))) (w / (4 : Int32)))) ps pn cy ca va t2_2 pp px (((vp_updL t1_1 (((4 : Int32) * cc) + (u_rem w (4 : Int32))).toNatClampNeg (f_Mo_line ((wr w.toNatClampNeg) ^^^ (f_Mo_dataOf (t2_1 w.toNatClampNeg))) (w / (4 : Int32)))) (((4 : Int32) * cc) + (u_rem w (4 : Int32))).toNatClampNeg).toInt32) ne gi gn) := hD
      refine lv_iconst (v := 1) hx hb d_Mo_fetch_72 (by decide) ?_
      rw [f_Mo_fetch_e1 wr wg li ca va cn go cc w (t1_0, t1_1, t1_2) (t2_0, t2_1, t2_2) e_t1 e_t2 h14 h22]
      exact W.zret hx hb hr rfl (fun t ht hW => ⟨⟨_, (), rfl, rfl, by show va_P D classes _ t.heap; rw [ht]; exact hP⟩, hS.F ht⟩) hS.2.2 d_Mo_fetch_73 hlocks
    · refine lv_aload_n hx hb d_Mo_fetch_25 rfl (lv_at hl 1 rfl) ?_
      refine lv_iconst (v := 5) hx hb d_Mo_fetch_26 (by decide) ?_
      refine lv_iload_n hx hb d_Mo_fetch_27 rfl (lv_at hl 3 rfl) ?_
      refine cj_v (wc := (W_Mo cI cL b0 b1 b2 b3 b4 b5 b6 b7 ev wr t2_1 ke ma t1_1 ps pn cy ca va t2_2 pp px go ne gi gn)) (w1 := (W_Mo cI cL b0 b1 b2 b3 b4 b5 b6 b7 ev wr t2_1 ke ma t1_1 ps pn cy ((f_Mo_stop ca va (5 : Int32) w).1) ((f_Mo_stop ca va (5 : Int32) w).2) t2_2 pp px go ne gi gn)) hP hD hS hA [0, 1, 2, 3, 4, 5, 6, 7] rfl [b0, b1, b2, b3, b4, b5, b6, b7] rfl rfl (va_runV (rest := []) ⟨hx, hb, hml, hown, hg⟩ (c_Mo_stop l D cI cL b0 b1 b2 b3 b4 b5 b6 b7 _ ev wr t2_1 ke ma t1_1 ps pn cy ca va t2_2 pp px go ne gi gn (5 : Int32) w) ⟨callB_of 2 hg (gw_good m_595) rfl rfl rfl (hg _ m_71) (hg _ m_592) hd_Mo_stop ⟨Nat.le_of_ble_eq_true rfl, Nat.le_of_ble_eq_true rfl⟩, hg _ m_594, hg _ m_40⟩ (pw_V hK hN hT hA hP hD hS [0, 1, 2, 3, 4, 5, 6, 7] rfl (by decide) (q0 := 0) (ci := 5) rfl rfl) rfl rfl hl.1 rfl (lv_room (Nat.le_of_ble_eq_true rfl)) d_Mo_fetch_28 ⟨Nat.le_of_ble_eq_true rfl, Nat.le_of_ble_eq_true rfl⟩) (fun H locs hP hD hS => ?_)
      have hP : va_P D classes (W_Mo cI cL b0 b1 b2 b3 b4 b5 b6 b7 ev wr t2_1 ke ma t1_1 ps pn cy ((f_Mo_stop ca va (5 : Int32) w).1) ((f_Mo_stop ca va (5 : Int32) w).2) t2_2 pp px go ne gi gn) H := hP
      have hD : va_D A (W_Mo cI cL b0 b1 b2 b3 b4 b5 b6 b7 ev wr t2_1 ke ma t1_1 ps pn cy ((f_Mo_stop ca va (5 : Int32) w).1) ((f_Mo_stop ca va (5 : Int32) w).2) t2_2 pp px go ne gi gn) := hD
      generalize e_t3 : f_Mo_stop ca va (5 : Int32) w = t3 at hP hD ⊢
      obtain ⟨t3_0, t3_1⟩ := t3
      have hP : va_P D classes (W_Mo cI cL b0 b1 b2 b3 b4 b5 b6 b7 ev wr t2_1 ke ma t1_1 ps pn cy t3_0 t3_1 t2_2 pp px go ne gi gn) H := hP
      have hD : va_D A (W_Mo cI cL b0 b1 b2 b3 b4 b5 b6 b7 ev wr t2_1 ke ma t1_1 ps pn cy t3_0 t3_1 t2_2 pp px go ne gi gn) := hD
      refine lv_iconst (v := 0) hx hb d_Mo_fetch_31 (by decide) ?_
      rw [f_Mo_fetch_e2 wr wg li ca va cn go cc w (t1_0, t1_1, t1_2) (t2_0, t2_1, t2_2) (t3_0, t3_1) e_t1 e_t2 e_t3 h14 h22]
      exact W.zret hx hb hr rfl (fun t ht hW => ⟨⟨_, (), rfl, rfl, by show va_P D classes _ t.heap; rw [ht]; exact hP⟩, hS.F ht⟩) hS.2.2 d_Mo_fetch_32 hlocks
