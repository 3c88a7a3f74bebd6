/-! Reading and writing through the caches, on both sides -/
def HB (x : Int64) (j : Nat) : Int32 := if lg_cmp ((u_lush x (32 : Int32)) &&& (31 : Int64)) (((16 : Int32) ||| (u_ush (nI j) (2 : Int32))).toInt64) = 0 then 1 else 0
theorem lo3839 {x : Int64} (h : wLo 38 x) : wLo 39 x := Nat.lt_of_lt_of_le h (by decide)
theorem odd_c {x : Int64} (h : wLo 38 x) : (f_Lg_bitCount x &&& (1 : Int32) = (1 : Int32)) ↔ ¬ f_Mo_isOdd x = 0 := by
  rw [par_eq (lo3839 h)]
  rcases odd_01 x with e | e <;> rw [e] <;> decide
theorem ca_drop {L : Nat → Int64} {rf : Int32} {j : Nat} (hj : j < 64) (h : wLo 38 (L (j % 4))) : f_Ca_dropIfWrong L rf (nI j) = if f_Mo_isOdd (L (j % 4)) = 0 then (L, rf) else (vp_updL L (j % 4) 0, rf + 1) := by
  unfold f_Ca_dropIfWrong
  rw [line_at hj]
  by_cases e : f_Mo_isOdd (L (j % 4)) = 0
  · rw [if_pos e, if_neg (fun q => (odd_c h).mp q e)]
  · rw [if_neg e, if_pos ((odd_c h).mpr e)]
theorem ca_hold {L : Nat → Int64} {j : Nat} (hj : j < 64) : f_Ca_holds L (nI j) = HB (L (j % 4)) j := by
  unfold f_Ca_holds HB
  rw [line_at hj]
theorem HB_mo {x : Int64} (hx : wLo 38 x) {j : Nat} (hj : j < 64) {α β : Type} (a : α) (b : β) : (if lg_cmp ((u_lshr x (36 : Int32)) &&& (1 : Int64)) (1 : Int64) = 0 then (if ((u_lshr x (32 : Int32)) &&& (15 : Int64)).toInt32 = nI j / (4 : Int32) then ((1 : Int32), a, b) else ((0 : Int32), a, b)) else ((0 : Int32), a, b)) = (HB x j, a, b) := by
  unfold HB
  have h := ho_eq hx hj
  by_cases h1 : lg_cmp ((u_lshr x (36 : Int32)) &&& (1 : Int64)) (1 : Int64) = 0
  · rw [if_pos h1]
    by_cases h2 : ((u_lshr x (32 : Int32)) &&& (15 : Int64)).toInt32 = nI j / (4 : Int32)
    · rw [if_pos h2, if_pos (h.mpr ⟨h1, h2⟩)]
    · rw [if_neg h2, if_neg (fun q => h2 (h.mp q).2)]
  · rw [if_neg h1, if_neg (fun q => h1 (h.mp q).1)]
theorem mo_hold {li : Nat → Int64} {cn : Nat → Int32} {c j : Nat} (hc : c < 2) (hj : j < 64) (h : wLo 38 (li (4 * c + j % 4))) : f_Mo_holds li cn (nI c) (nI j) = if f_Mo_isOdd (li (4 * c + j % 4)) = 0 then (HB (li (4 * c + j % 4)) j, li, cn) else (HB 0 j, vp_updL li (4 * c + j % 4) 0, upd cn (3 + c) (cn (3 + c) + 1)) := by
  unfold f_Mo_holds
  rw [mo_at hc hj, show (3 : Int32) + nI c = nI (3 + c) from nI_add 3 c, nI_clamp (n := 3 + c) (by omega)]
  by_cases e : f_Mo_isOdd (li (4 * c + j % 4)) = 0
  · rw [if_pos e, if_pos e]
    exact HB_mo h hj _ _
  · rw [if_neg e, if_neg e, pk_uLs]
    exact HB_mo (lo0 _) hj _ _
def Rq (K : Nat → Int64) (co : Int32) (L1 : Nat → Int64) (r1 : Int32) (L2 : Nat → Int64) (r2 : Int32) (wr : Nat → Int32) (wg li : Nat → Int64) (cn : Nat → Int32) : Prop := RM K wr wg ∧ RC L1 L2 li ∧ cn 0 = co ∧ cn 3 = r1 ∧ cn 4 = r2
def Un (cn cn2 : Nat → Int32) : Prop := cn2 1 = cn 1 ∧ cn2 2 = cn 2 ∧ cn2 5 = cn 5
theorem rc_set1 {L1 L2 li : Nat → Int64} (h : RC L1 L2 li) {i : Nat} (hi : i < 4) {x : Int64} (hx : wLo 38 x) : RC (vp_updL L1 i x) L2 (vp_updL li i x) := by
  intro k hk
  have h0 := h k hk
  rw [pk_uLn (j := 4 + k) (show 4 + k ≠ i by omega)]
  by_cases e : k = i
  · subst e; rw [pk_uLs, pk_uLs]; exact ⟨rfl, h0.2.1, hx, h0.2.2.2⟩
  · rw [pk_uLn e, pk_uLn e]; exact h0
theorem rc_set2 {L1 L2 li : Nat → Int64} (h : RC L1 L2 li) {i : Nat} (hi : i < 4) {x : Int64} (hx : wLo 38 x) : RC L1 (vp_updL L2 i x) (vp_updL li (4 + i) x) := by
  intro k hk
  have h0 := h k hk
  rw [pk_uLn (j := k) (show k ≠ 4 + i by omega)]
  by_cases e : k = i
  · subst e; rw [pk_uLs, pk_uLs]; exact ⟨h0.1, rfl, h0.2.2.1, hx⟩
  · rw [pk_uLn e, pk_uLn (show 4 + k ≠ 4 + i by omega)]; exact h0
section HOLD
variable {K L1 L2 wg li : Nat → Int64} {co r1 r2 : Int32} {wr cn : Nat → Int32} {j : Nat}
theorem hold0 (h : Rq K co L1 r1 L2 r2 wr wg li cn) (hj : j < 64) : (f_Mo_holds li cn (0 : Int32) (nI j)).1 = f_Ca_holds (f_Ca_dropIfWrong L1 r1 (nI j)).1 (nI j) ∧ Rq K co (f_Ca_dropIfWrong L1 r1 (nI j)).1 (f_Ca_dropIfWrong L1 r1 (nI j)).2 L2 r2 wr wg (f_Mo_holds li cn (0 : Int32) (nI j)).2.1 (f_Mo_holds li cn (0 : Int32) (nI j)).2.2 ∧ Un cn (f_Mo_holds li cn (0 : Int32) (nI j)).2.2 := by
  obtain ⟨hM, hC, n0, n3, n4⟩ := h
  have h0 := hC (j % 4) (by omega)
  have e := mo_hold (cn := cn) (c := 0) (by decide) hj (show wLo 38 (li (4 * 0 + j % 4)) by rw [show 4 * 0 + j % 4 = j % 4 by omega]; exact h0.2.2.1)
  rw [show 4 * 0 + j % 4 = j % 4 by omega] at e
  rw [show f_Mo_holds li cn (0 : Int32) (nI j) = _ from e, ca_drop hj (by rw [h0.1]; exact h0.2.2.1), ca_hold hj, h0.1]
  by_cases o : f_Mo_isOdd (li (j % 4)) = 0
  · rw [if_pos o, if_pos o]
    exact ⟨by dsimp only; rw [h0.1], ⟨hM, hC, n0, n3, n4⟩, rfl, rfl, rfl⟩
  · rw [if_neg o, if_neg o]
    refine ⟨by dsimp only; rw [pk_uLs], ⟨hM, rc_set1 hC (by omega) (lo0 _), ?_, ?_, ?_⟩, ?_, ?_, ?_⟩
    · exact n0
    · show upd cn 3 (cn 3 + 1) 3 = r1 + 1
      rw [pk_us, n3]
    · exact n4
    · exact rfl
    · exact rfl
    · exact rfl
theorem hold1 (h : Rq K co L1 r1 L2 r2 wr wg li cn) (hj : j < 64) : (f_Mo_holds li cn (1 : Int32) (nI j)).1 = f_Ca_holds (f_Ca_dropIfWrong L2 r2 (nI j)).1 (nI j) ∧ Rq K co L1 r1 (f_Ca_dropIfWrong L2 r2 (nI j)).1 (f_Ca_dropIfWrong L2 r2 (nI j)).2 wr wg (f_Mo_holds li cn (1 : Int32) (nI j)).2.1 (f_Mo_holds li cn (1 : Int32) (nI j)).2.2 ∧ Un cn (f_Mo_holds li cn (1 : Int32) (nI j)).2.2 := by
  obtain ⟨hM, hC, n0, n3, n4⟩ := h
  have h0 := hC (j % 4) (by omega)
  have e := mo_hold (cn := cn) (c := 1) (by decide) hj (show wLo 38 (li (4 * 1 + j % 4)) from h0.2.2.2)
  rw [show 4 * 1 + j % 4 = 4 + j % 4 by omega] at e
  rw [show f_Mo_holds li cn (1 : Int32) (nI j) = _ from e, ca_drop hj (by rw [h0.2.1]; exact h0.2.2.2), ca_hold hj, h0.2.1]
  by_cases o : f_Mo_isOdd (li (4 + j % 4)) = 0
  · rw [if_pos o, if_pos o]
    exact ⟨by dsimp only; rw [h0.2.1], ⟨hM, hC, n0, n3, n4⟩, rfl, rfl, rfl⟩
  · rw [if_neg o, if_neg o]
    refine ⟨by dsimp only; rw [pk_uLs], ⟨hM, rc_set2 hC (by omega) (lo0 _), ?_, ?_, ?_⟩, ?_, ?_, ?_⟩
    · exact n0
    · exact n3
    · show upd cn 4 (cn 4 + 1) 4 = r2 + 1
      rw [pk_us, n4]
    · exact rfl
    · exact rfl
    · exact rfl
/-- mend, with the relation -/
theorem mend_rel (h : Rq K co L1 r1 L2 r2 wr wg li cn) (hj : j < 64) : Rq (f_Me_mend K co (nI j)).2.1 (f_Me_mend K co (nI j)).2.2 L1 r1 L2 r2 wr (f_Mo_mend wg cn (nI j)).2.1 li (f_Mo_mend wg cn (nI j)).2.2 ∧ Un cn (f_Mo_mend wg cn (nI j)).2.2 ∧
    (((f_Me_mend K co (nI j)).1 = -2 ∧ (f_Mo_mend wg cn (nI j)).1 = 0) ∨ ((f_Me_mend K co (nI j)).1 = (wr j ^^^ f_Mo_dataOf ((f_Mo_mend wg cn (nI j)).2.1 j)).toInt64 &&& (4294967295 : Int64) ∧ (f_Mo_mend wg cn (nI j)).1 = 1)) := by
  obtain ⟨hM, hC, n0, n3, n4⟩ := h
  have hc : (nI j).toNatClampNeg = j := nI_clamp (by omega)
  have hm := mend_eq (K := K) (wg := wg) (wr := wr) (cn := cn) (co := co) (w := nI j) (by rw [hc]; exact (hM j hj).1) (by rw [hc]; exact (hM j hj).2)
  rw [hc] at hm
  rcases hm with ⟨a, b⟩ | ⟨a, b⟩ | ⟨s, hs, a, b⟩
  · rw [a, b]
    exact ⟨⟨hM, hC, n0, n3, n4⟩, ⟨rfl, rfl, rfl⟩, Or.inl ⟨rfl, rfl⟩⟩
  · rw [a, b]
    exact ⟨⟨hM, hC, n0, n3, n4⟩, ⟨rfl, rfl, rfl⟩, Or.inr ⟨rfl, rfl⟩⟩
  · rw [a, b]
    refine ⟨⟨fun w hw => ?_, hC, ?_, ?_, ?_⟩, ⟨?_, ?_, ?_⟩, Or.inr ⟨?_, rfl⟩⟩
    · show vp_updL K j _ w = f_Mo_encoded (wr w) ^^^ vp_updL wg j _ w ∧ wLo 39 (vp_updL wg j _ w)
      by_cases e : w = j
      · subst e
        rw [pk_uLs, pk_uLs]
        exact ⟨rfl, (flip_lo (n := 39) (by decide) hs (hM w hw).2).1⟩
      · rw [pk_uLn e, pk_uLn e]
        exact hM w hw
    · show upd cn 0 (cn 0 + 1) 0 = co + 1
      rw [pk_us, n0]
    · exact n3
    · exact n4
    · exact rfl
    · exact rfl
    · exact rfl
    · show _ = (wr j ^^^ f_Mo_dataOf (vp_updL wg j _ j)).toInt64 &&& _
      rw [pk_uLs]
end HOLD
theorem low_i (v : Int32) : (v.toInt64 &&& (4294967295 : Int64)).toInt32 = v := by
  have h := uN_i2l v (m := 4294967295) (M := 4294967295) (by decide) (by decide)
  have hv := u32_lt v
  have e : u32 v &&& 4294967295 = u32 v % 2 ^ 32 := Nat.and_two_pow_sub_one_eq_mod _ 32
  apply Int32.toBitVec_inj.1
  apply BitVec.eq_of_toNat_eq
  rw [l2i_num, h, e]
  show u32 v % 2 ^ 32 % 2 ^ 32 = u32 v
  omega
theorem low_m (x : Int64) : (x &&& (4294967295 : Int64)).toInt32 = x.toInt32 := by
  apply Int32.toBitVec_inj.1
  apply BitVec.eq_of_toNat_eq
  rw [l2i_num, l2i_num, uN_and, show uN (4294967295 : Int64) = 4294967295 by decide]
  have e : uN x &&& 4294967295 = uN x % 2 ^ 32 := Nat.and_two_pow_sub_one_eq_mod _ 32
  rw [e, Nat.mod_mod]
theorem ne_m (x : Int64) : ¬ x &&& (4294967295 : Int64) = -2 := fun h => by
  have h1 := congrArg uN h
  rw [uN_and, show uN (4294967295 : Int64) = 4294967295 by decide, show uN (-2 : Int64) = 18446744073709551614 by decide] at h1
  have : uN x &&& 4294967295 ≤ 4294967295 := Nat.and_le_right
  omega
def Fx (A1 : Int64) (B1 Bca Bva Bgo ca va w : Int32) : Prop := (A1 = -2 ∧ B1 = 0 ∧ Bca = 5 ∧ Bva = w) ∨ (¬ A1 = -2 ∧ B1 = 1 ∧ Bca = ca ∧ Bva = va ∧ A1.toInt32 = Bgo)
section FETCH
variable {K L1 L2 wg li : Nat → Int64} {co r1 r2 : Int32} {wr cn : Nat → Int32} {j : Nat} {ca va go : Int32}
theorem fetch1_eq (h : Rq K co L1 r1 L2 r2 wr wg li cn) (hj : j < 64) :
    Rq (f_V_fetch1 K co L1 r1 (nI j)).2.1 (f_V_fetch1 K co L1 r1 (nI j)).2.2.1 (f_V_fetch1 K co L1 r1 (nI j)).2.2.2.1 (f_V_fetch1 K co L1 r1 (nI j)).2.2.2.2 L2 r2 wr (f_Mo_fetch wr wg li ca va cn go (0 : Int32) (nI j)).2.1 (f_Mo_fetch wr wg li ca va cn go (0 : Int32) (nI j)).2.2.1 (f_Mo_fetch wr wg li ca va cn go (0 : Int32) (nI j)).2.2.2.2.2.1 ∧ Un cn (f_Mo_fetch wr wg li ca va cn go (0 : Int32) (nI j)).2.2.2.2.2.1 ∧
    Fx (f_V_fetch1 K co L1 r1 (nI j)).1 (f_Mo_fetch wr wg li ca va cn go (0 : Int32) (nI j)).1 (f_Mo_fetch wr wg li ca va cn go (0 : Int32) (nI j)).2.2.2.1 (f_Mo_fetch wr wg li ca va cn go (0 : Int32) (nI j)).2.2.2.2.1 (f_Mo_fetch wr wg li ca va cn go (0 : Int32) (nI j)).2.2.2.2.2.2 ca va (nI j) := by
  have hc : (nI j).toNatClampNeg = j := nI_clamp (by omega)
  obtain ⟨a1, a2, a3⟩ := hold0 h hj
  unfold f_V_fetch1 f_Mo_fetch
  dsimp only
  generalize f_Ca_dropIfWrong L1 r1 (nI j) = T at a1 a2
  generalize f_Mo_holds li cn (0 : Int32) (nI j) = U at a1 a2 a3
  rw [a1, show ((4 : Int32) * (0 : Int32) + u_rem (nI j) (4 : Int32)).toNatClampNeg = 4 * 0 + j % 4 from mo_at (c := 0) (by decide) hj, hc, show 4 * 0 + j % 4 = j % 4 by omega]
  by_cases hh : f_Ca_holds T.1 (nI j) = 0
  · rw [if_pos hh, if_pos hh]
    obtain ⟨b1, b2, b3⟩ := mend_rel a2 hj
    generalize f_Me_mend K co (nI j) = P at b1 b3
    generalize f_Mo_mend wg U.2.2 (nI j) = N at b1 b2 b3
    have hun : Un cn N.2.2 := ⟨b2.1.trans a3.1, b2.2.1.trans a3.2.1, b2.2.2.trans a3.2.2⟩
    rcases b3 with ⟨c1, c2⟩ | ⟨c1, c2⟩
    · rw [c1, c2, if_pos (lg0.mpr rfl), if_pos rfl]
      exact ⟨b1, hun, Or.inl ⟨rfl, rfl, rfl, rfl⟩⟩
    · rw [c1, c2, if_neg (fun q => ne_m _ (lg0.mp q)), if_neg (show ¬ (1 : Int32) = 0 by decide), pk_uLs, low_i]
      obtain ⟨d1, d2, d3, d4⟩ := fill_eq (wr j ^^^ f_Mo_dataOf (N.2.1 j)) hj
      refine ⟨⟨b1.1, ?_, b1.2.2⟩, hun, Or.inr ⟨ne_m _, rfl, rfl, rfl, ?_⟩⟩
      · show RC (f_Ca_fill T.1 (nI j) _) L2 (vp_updL U.2.1 (j % 4) _)
        unfold f_Ca_fill
        dsimp only
        rw [line_at hj, d1]
        exact rc_set1 b1.2.1 (by omega) d2
      · show ((wr j ^^^ f_Mo_dataOf (N.2.1 j)).toInt64 &&& (4294967295 : Int64)).toInt32 = _
        rw [low_i, d3]
  · rw [if_neg hh, if_neg hh]
    refine ⟨a2, a3, Or.inr ⟨?_, rfl, rfl, rfl, ?_⟩⟩
    · exact ne_m _
    · show (f_Ca_held T.1 (nI j)).toInt32 = _
      unfold f_Ca_held
      rw [low_m, line_at hj, (a2.2.1 (j % 4) (by omega)).1]
theorem fetch2_eq (h : Rq K co L1 r1 L2 r2 wr wg li cn) (hj : j < 64) :
    Rq (f_V_fetch2 K co L2 r2 (nI j)).2.1 (f_V_fetch2 K co L2 r2 (nI j)).2.2.1 L1 r1 (f_V_fetch2 K co L2 r2 (nI j)).2.2.2.1 (f_V_fetch2 K co L2 r2 (nI j)).2.2.2.2 wr (f_Mo_fetch wr wg li ca va cn go (1 : Int32) (nI j)).2.1 (f_Mo_fetch wr wg li ca va cn go (1 : Int32) (nI j)).2.2.1 (f_Mo_fetch wr wg li ca va cn go (1 : Int32) (nI j)).2.2.2.2.2.1 ∧ Un cn (f_Mo_fetch wr wg li ca va cn go (1 : Int32) (nI j)).2.2.2.2.2.1 ∧
    Fx (f_V_fetch2 K co L2 r2 (nI j)).1 (f_Mo_fetch wr wg li ca va cn go (1 : Int32) (nI j)).1 (f_Mo_fetch wr wg li ca va cn go (1 : Int32) (nI j)).2.2.2.1 (f_Mo_fetch wr wg li ca va cn go (1 : Int32) (nI j)).2.2.2.2.1 (f_Mo_fetch wr wg li ca va cn go (1 : Int32) (nI j)).2.2.2.2.2.2 ca va (nI j) := by
  have hc : (nI j).toNatClampNeg = j := nI_clamp (by omega)
  obtain ⟨a1, a2, a3⟩ := hold1 h hj
  unfold f_V_fetch2 f_Mo_fetch
  dsimp only
  generalize f_Ca_dropIfWrong L2 r2 (nI j) = T at a1 a2
  generalize f_Mo_holds li cn (1 : Int32) (nI j) = U at a1 a2 a3
  rw [a1, show ((4 : Int32) * (1 : Int32) + u_rem (nI j) (4 : Int32)).toNatClampNeg = 4 * 1 + j % 4 from mo_at (c := 1) (by decide) hj, hc, show 4 * 1 + j % 4 = 4 + j % 4 by omega]
  by_cases hh : f_Ca_holds T.1 (nI j) = 0
  · rw [if_pos hh, if_pos hh]
    obtain ⟨b1, b2, b3⟩ := mend_rel a2 hj
    generalize f_Me_mend K co (nI j) = P at b1 b3
    generalize f_Mo_mend wg U.2.2 (nI j) = N at b1 b2 b3
    have hun : Un cn N.2.2 := ⟨b2.1.trans a3.1, b2.2.1.trans a3.2.1, b2.2.2.trans a3.2.2⟩
    rcases b3 with ⟨c1, c2⟩ | ⟨c1, c2⟩
    · rw [c1, c2, if_pos (lg0.mpr rfl), if_pos rfl]
      exact ⟨b1, hun, Or.inl ⟨rfl, rfl, rfl, rfl⟩⟩
    · rw [c1, c2, if_neg (fun q => ne_m _ (lg0.mp q)), if_neg (show ¬ (1 : Int32) = 0 by decide), pk_uLs, low_i]
      obtain ⟨d1, d2, d3, d4⟩ := fill_eq (wr j ^^^ f_Mo_dataOf (N.2.1 j)) hj
      refine ⟨⟨b1.1, ?_, b1.2.2⟩, hun, Or.inr ⟨ne_m _, rfl, rfl, rfl, ?_⟩⟩
      · show RC L1 (f_Ca_fill T.1 (nI j) _) (vp_updL U.2.1 (4 + j % 4) _)
        unfold f_Ca_fill
        dsimp only
        rw [line_at hj, d1]
        exact rc_set2 b1.2.1 (by omega) d2
      · show ((wr j ^^^ f_Mo_dataOf (N.2.1 j)).toInt64 &&& (4294967295 : Int64)).toInt32 = _
        rw [low_i, d3]
  · rw [if_neg hh, if_neg hh]
    refine ⟨a2, a3, Or.inr ⟨?_, rfl, rfl, rfl, ?_⟩⟩
    · exact ne_m _
    · show (f_Ca_held T.1 (nI j)).toInt32 = _
      unfold f_Ca_held
      rw [low_m, line_at hj, (a2.2.1 (j % 4) (by omega)).2.1]
end FETCH
