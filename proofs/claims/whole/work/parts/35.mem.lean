/-! Memory: both sides' words -/
theorem kp_step {t : Int64} {b s j : Nat} (hs : s < 64) (hj : j < 6) (hb : b < 2 ^ 39) (hz : ∀ m : Fin 6, b &&& 2 ^ 2 ^ m.val = 0) (ht : uN t = b ^^^ cpx s j) :
    uN (t ||| u_lshl (((u_ush (nI s) (nI j)).toInt64) &&& (1 : Int64)) ((1 : Int32) <<< (nI j &&& 31))) = b ^^^ cpx s (j + 1) := by
  have hc := cpx_0 ⟨s, hs⟩ ⟨j, hj⟩
  have hz2 : (b ^^^ cpx s j) &&& 2 ^ 2 ^ j = 0 := xor_and_0 (hz ⟨j, hj⟩) hc.1
  have hp : 2 ^ j < 63 := by
    have : ∀ k : Fin 6, 2 ^ k.val < 63 := by decide
    exact this ⟨j, hj⟩
  have hsh : ∀ k : Fin 6, (1 : Int32) <<< (nI k.val &&& 31) = nI (2 ^ k.val) := by decide +kernel
  have hu : ∀ k : Fin 6, (((nI k.val).toUInt32 &&& Int32.toUInt32 31).toBitVec % 32).toNat = k.val := by decide +kernel
  have e1 : u_ush (nI s) (nI j) = nI (s / 2 ^ j) := pk_ushrN (by omega) (nI j) j (hu ⟨j, hj⟩)
  have hq : s / 2 ^ j < 2 ^ 32 := Nat.lt_of_le_of_lt (Nat.div_le_self _ _) (by omega)
  rw [uN_or', ht, hsh ⟨j, hj⟩, uN_lshl _ (show 2 ^ j < 64 by omega), e1, uN_i2l _ (m := 1) (by decide) (by decide), u32_nI hq]
  have e2 : s / 2 ^ j &&& 1 = s / 2 ^ j % 2 ^ 1 := Nat.and_two_pow_sub_one_eq_mod _ 1
  have h2 : 2 ^ 2 ^ j < 18446744073709551616 := Nat.pow_lt_pow_right (m := 2 ^ j) (n := 64) (by decide) (by omega)
  rw [e2]
  show _ ||| _ = b ^^^ (cpx s j ^^^ (if true = true ∧ s / 2 ^ j % 2 = 1 then 2 ^ 2 ^ j else 0))
  rcases (show s / 2 ^ j % 2 = 0 ∨ s / 2 ^ j % 2 = 1 by omega) with e | e
  · rw [if_neg (fun q => absurd q.2 (by rw [e]; decide)), show s / 2 ^ j % 2 ^ 1 = 0 from e, Nat.zero_mul, Nat.zero_mod, Nat.or_zero, Nat.xor_zero]
  · rw [if_pos ⟨rfl, e⟩, show s / 2 ^ j % 2 ^ 1 = 1 from e, Nat.one_mul, Nat.mod_eq_of_lt h2, or_xor hz2, Nat.xor_assoc]
theorem uN_01 {p : Nat} (h : p < 2) : uN ((nI p).toInt64) = p := by
  have : ∀ k : Fin 2, uN ((nI k.val).toInt64) = k.val := by decide
  exact this ⟨p, h⟩
theorem keep_eq (K : Nat → Int64) (w v : Int32) : f_Me_keep K w v = vp_updL K w.toNatClampNeg (f_Mo_encoded v) := by
  have hc := u32_lt v
  have hl := spx_lt (u32 v) 39
  have hz := spx_at hc
  have hs := syf_lt (spx (u32 v) 39) 39 (by decide)
  have hsp : uN (f_Me_spread v) = spx (u32 v) 39 := by rw [spr_num, spx_SX hc]
  have hN : f_Me_xorOfNumbers (f_Me_spread v) = nI (syf (spx (u32 v) 39) 39) := by rw [xon_num, hsp, xnf_syf hl]
  unfold f_Me_keep
  rw [hN]
  generalize hse : syf (spx (u32 v) 39) 39 = s at hs
  have h0 : uN (f_Me_spread v) = spx (u32 v) 39 ^^^ cpx s 0 := by rw [hsp, show cpx s 0 = 0 from rfl, Nat.xor_zero]
  have h1 := kp_step hs (j := 0) (by decide) hl hz h0
  have h2 := kp_step hs (j := 1) (by decide) hl hz h1
  have h3 := kp_step hs (j := 2) (by decide) hl hz h2
  have h4 := kp_step hs (j := 3) (by decide) hl hz h3
  have h5 := kp_step hs (j := 4) (by decide) hl hz h4
  have h6 := kp_step hs (j := 5) (by decide) hl hz h5
  have he := e2x_lt hc
  have hE := EX_lt hc
  have key : ∀ T : Int64, uN T = e2x (u32 v) → T ||| (f_Lg_bitCount T &&& (1 : Int32)).toInt64 = f_Mo_encoded v := by
    intro T hTe
    have hp : f_Lg_bitCount T &&& (1 : Int32) = nI (cnt (e2x (u32 v)) 39 % 2) := by rw [bc_par, hTe, cnt_hi he.1 64 (by decide)]
    rw [hp, enc_num]
    apply uN_inj
    rw [uN_or', hTe, uN_01 (Nat.mod_lt _ (by decide)), uN_lN (by omega)]
    unfold EX
    refine or_xor ?_
    rcases (show cnt (e2x (u32 v)) 39 % 2 = 0 ∨ cnt (e2x (u32 v)) 39 % 2 = 1 by omega) with e | e
    · rw [e, Nat.and_zero]
    · rw [e]; exact he.2
  have h7 := h6.trans (show spx (u32 v) 39 ^^^ cpx s 6 = e2x (u32 v) by rw [← hse]; rfl)
  exact congrArg (vp_updL K w.toNatClampNeg) (key _ h7)
/-- a word as it is kept: the code of v, with the wrong bits g -/
theorem cw_num (v : Int32) (g : Int64) (hg : wLo 39 g) : uN (f_Mo_encoded v ^^^ g) = EX (u32 v) ^^^ uN g ∧ wLo 39 (f_Mo_encoded v ^^^ g) := by
  have hE := EX_lt (u32_lt v)
  have h : uN (f_Mo_encoded v ^^^ g) = EX (u32 v) ^^^ uN g := by rw [uN_xor', enc_num, uN_lN (by omega)]
  exact ⟨h, by unfold wLo; rw [h]; exact Nat.xor_lt_two_pow hE hg⟩
theorem cw_par (v : Int32) (g : Int64) (hg : wLo 39 g) : f_Lg_bitCount (f_Mo_encoded v ^^^ g) &&& (1 : Int32) = f_Mo_isOdd g := by
  obtain ⟨h1, h2⟩ := cw_num v g hg
  rw [par_eq h2, odd_num, odd_num, h1, cnt_xor]
  have := EX_par (u32_lt v)
  congr 1
  omega
theorem cw_syn (v : Int32) (g : Int64) (hg : wLo 39 g) : f_Me_xorOfNumbers (f_Mo_encoded v ^^^ g) = f_Mo_syndrome g := by
  obtain ⟨h1, h2⟩ := cw_num v g hg
  rw [syn_eq h2, syn_num, syn_num, h1, syf_xor, EX_syn (u32_lt v), Nat.zero_xor]
theorem cw_dat (v : Int32) (g : Int64) (hg : wLo 39 g) : f_Me_gathered (f_Mo_encoded v ^^^ g) = (v ^^^ f_Mo_dataOf g).toInt64 &&& (4294967295 : Int64) := by
  obtain ⟨h1, h2⟩ := cw_num v g hg
  have hd := dnx_lt (uN g) 39
  have h39 : didx 39 = 32 := by decide +kernel
  rw [h39] at hd
  apply uN_inj
  rw [gath_num, h1, GX_xor, EX_dat (u32_lt v), uN_i2l _ (m := 4294967295) (by decide) (by decide), data_num, dnx_GX hg]
  rw [dnx_GX hg] at hd
  have e : u32 (v ^^^ nI (GX (uN g))) = u32 v ^^^ GX (uN g) := by
    show (v.toBitVec ^^^ (nI (GX (uN g))).toBitVec).toNat = _
    rw [BitVec.toNat_xor]
    show u32 v ^^^ u32 (nI (GX (uN g))) = _
    rw [u32_nI hd]
  rw [e]
  have e2 : (u32 v ^^^ GX (uN g)) &&& 4294967295 = (u32 v ^^^ GX (uN g)) % 2 ^ 32 := Nat.and_two_pow_sub_one_eq_mod _ 32
  rw [e2, Nat.mod_eq_of_lt (Nat.xor_lt_two_pow (u32_lt v) hd)]
theorem odd_01 (x : Int64) : f_Mo_isOdd x = 0 ∨ f_Mo_isOdd x = 1 := by
  rw [odd_num]
  rcases (show cnt (uN x) 39 % 2 = 0 ∨ cnt (uN x) 39 % 2 = 1 by omega) with e | e <;> rw [e]
  · exact Or.inl rfl
  · exact Or.inr rfl
theorem flip_lo {n k : Nat} {g : Int64} (hn : n ≤ 63) (hk : k < n) (hg : wLo n g) : wLo n (g ^^^ u_lshl (1 : Int64) (nI k)) ∧ uN (g ^^^ u_lshl (1 : Int64) (nI k)) = uN g ^^^ 2 ^ k := by
  have h2 : 2 ^ k < 18446744073709551616 := Nat.pow_lt_pow_right (m := k) (n := 64) (by decide) (by omega)
  have e : uN (g ^^^ u_lshl (1 : Int64) (nI k)) = uN g ^^^ 2 ^ k := by rw [uN_xor', uN_lshl _ (by omega), show uN (1 : Int64) = 1 by decide, Nat.one_mul, Nat.mod_eq_of_lt h2]
  refine ⟨?_, e⟩
  unfold wLo
  rw [e]
  exact Nat.xor_lt_two_pow hg (Nat.pow_lt_pow_right (by decide) hk)
theorem fix_eq (v : Int32) (g : Int64) (hg : wLo 39 g) : (f_Mo_wrongBit g = -2 ∧ f_Me_putRight (f_Mo_encoded v ^^^ g) = -2) ∨ (f_Mo_wrongBit g = -1 ∧ f_Me_putRight (f_Mo_encoded v ^^^ g) = f_Mo_encoded v ^^^ g) ∨ ∃ s : Nat, s < 39 ∧ f_Mo_wrongBit g = nI s ∧ f_Me_putRight (f_Mo_encoded v ^^^ g) = f_Mo_encoded v ^^^ (g ^^^ u_lshl (1 : Int64) (nI s)) := by
  have hs := syf_lt (uN g) 39 (by decide)
  have hse := syn_num g
  unfold f_Me_putRight f_Mo_wrongBit
  rw [cw_par v g hg, cw_syn v g hg]
  rcases odd_01 g with ho | ho
  · rw [ho, if_neg (show ¬ (0 : Int32) = 1 by decide), if_pos rfl]
    by_cases h0 : f_Mo_syndrome g = 0
    · rw [if_pos h0, if_pos h0]
      exact Or.inr (Or.inl ⟨rfl, rfl⟩)
    · rw [if_neg h0, if_neg h0]
      exact Or.inl ⟨rfl, rfl⟩
  · rw [ho, if_pos rfl, if_neg (show ¬ (1 : Int32) = 0 by decide)]
    by_cases h0 : (39 : Int32) ≤ f_Mo_syndrome g
    · rw [if_pos h0, if_pos h0]
      exact Or.inl ⟨rfl, rfl⟩
    · rw [if_neg h0, if_neg h0]
      refine Or.inr (Or.inr ⟨syf (uN g) 39, ?_, hse, ?_⟩)
      · rw [hse] at h0
        exact Nat.not_le.mp fun q => h0 (nI_le q (by omega))
      · rw [hse]
        apply uN_inj
        rw [uN_xor', uN_xor', uN_xor', uN_xor', Nat.xor_assoc]
theorem lo_ne {x : Int64} (h : wLo 39 x) : ¬ x = -2 := fun e => by
  rw [e] at h
  have h : uN (-2 : Int64) < 2 ^ 39 := h
  exact absurd h (by decide)
theorem xor_ne {x y : Int64} (h : uN y ≠ 0) : ¬ x ^^^ y = x := fun e => by
  have h1 := congrArg uN e
  rw [uN_xor'] at h1
  have h2 : uN x ^^^ (uN x ^^^ uN y) = uN x ^^^ uN x := by rw [h1]
  rw [← Nat.xor_assoc, Nat.xor_self, Nat.zero_xor] at h2
  exact h h2
theorem xor3 (x y z : Int64) : x ^^^ (y ^^^ z) = (x ^^^ y) ^^^ z := by
  apply uN_inj
  rw [uN_xor', uN_xor', uN_xor', uN_xor', Nat.xor_assoc]
/-- mend on both sides -/
theorem mend_eq {K wg : Nat → Int64} {wr cn : Nat → Int32} {co : Int32} {w : Int32} (hK : K w.toNatClampNeg = f_Mo_encoded (wr w.toNatClampNeg) ^^^ wg w.toNatClampNeg) (hg : wLo 39 (wg w.toNatClampNeg)) :
    (f_Me_mend K co w = (-2, K, co) ∧ f_Mo_mend wg cn w = (0, wg, cn)) ∨
    (f_Me_mend K co w = ((wr w.toNatClampNeg ^^^ f_Mo_dataOf (wg w.toNatClampNeg)).toInt64 &&& (4294967295 : Int64), K, co) ∧ f_Mo_mend wg cn w = (1, wg, cn)) ∨
    ∃ s : Nat, s < 39 ∧ f_Me_mend K co w = ((wr w.toNatClampNeg ^^^ f_Mo_dataOf (wg w.toNatClampNeg ^^^ u_lshl (1 : Int64) (nI s))).toInt64 &&& (4294967295 : Int64), vp_updL K w.toNatClampNeg (f_Mo_encoded (wr w.toNatClampNeg) ^^^ (wg w.toNatClampNeg ^^^ u_lshl (1 : Int64) (nI s))), co + 1) ∧ f_Mo_mend wg cn w = (1, vp_updL wg w.toNatClampNeg (wg w.toNatClampNeg ^^^ u_lshl (1 : Int64) (nI s)), upd cn 0 (cn 0 + 1)) := by
  have hx := (cw_num (wr w.toNatClampNeg) (wg w.toNatClampNeg) hg).2
  unfold f_Me_mend f_Mo_mend
  rw [hK]
  generalize hwg : wg w.toNatClampNeg = g at hg hx ⊢
  generalize hwr : wr w.toNatClampNeg = v at hx ⊢
  rcases fix_eq v g hg with ⟨h1, h2⟩ | ⟨h1, h2⟩ | ⟨s, hs, h1, h2⟩
  · left
    rw [h2, if_pos (lg0.mpr rfl), h1, if_pos (show (-2 : Int32) < 0 by decide), if_pos rfl]
    exact ⟨rfl, rfl⟩
  · right; left
    rw [h2, if_neg (fun q => lo_ne hx (lg0.mp q)), if_pos (lg0.mpr rfl), h1, if_pos (show (-1 : Int32) < 0 by decide), if_neg (show ¬ (-1 : Int32) = -2 by decide), cw_dat v g hg]
    exact ⟨rfl, rfl⟩
  · right; right
    obtain ⟨hl, hu⟩ := flip_lo (n := 39) (by decide) hs hg
    have hx2 := (cw_num v _ hl).2
    have hne : ¬ f_Mo_encoded v ^^^ (g ^^^ u_lshl (1 : Int64) (nI s)) = f_Mo_encoded v ^^^ g := by
      rw [xor3]
      refine xor_ne ?_
      have h2 : 2 ^ s < 18446744073709551616 := Nat.pow_lt_pow_right (m := s) (n := 64) (by decide) (by omega)
      rw [uN_lshl _ (by omega), show uN (1 : Int64) = 1 by decide, Nat.one_mul, Nat.mod_eq_of_lt h2]
      exact Nat.ne_of_gt (Nat.two_pow_pos s)
    have hn0 : ¬ nI s < 0 := nI_pos (by omega)
    have hn2 : ¬ nI s = -2 := fun e => hn0 (by rw [e]; decide)
    refine ⟨s, hs, ?_, ?_⟩
    · rw [h2, if_neg (fun q => lo_ne hx2 (lg0.mp q)), if_neg (fun q => hne (lg0.mp q)), cw_dat v _ hl]
    · rw [h1, if_neg hn0, if_neg hn2]
      rfl
