/-! Calls that read or write one thing -/
def RM (K : Nat → Int64) (wr : Nat → Int32) (wg : Nat → Int64) : Prop := ∀ w : Nat, w < 64 → K w = f_Mo_encoded (wr w) ^^^ wg w ∧ wLo 39 (wg w)
def RC (L1 L2 li : Nat → Int64) : Prop := ∀ k : Nat, k < 4 → L1 k = li k ∧ L2 k = li (4 + k) ∧ wLo 38 (li k) ∧ wLo 38 (li (4 + k))
def RR (R ke ma : Nat → Int32) : Prop := ∀ r : Nat, r < 32 → ∀ c : Nat, c < 3 → R (3 * r + c) = ke r ^^^ ma (3 * r + c)
def RF (FC FP FB : Nat → Int32) (fs ps : Int32) (pn : Nat → Int32) : Prop := ps = fs ∧ vp_in fs 17 ∧ ∀ k : Nat, k < fs.toNatClampNeg → FC k = pn (3 * k) ∧ FP k = pn (3 * k + 1) ∧ FB k = pn (3 * k + 2) ∧ ¬ f_V_isBit (FP k) (FB k) = 0
theorem c3_0 {j : Nat} (h : j < 32) : ((3 : Int32) * nI j).toNatClampNeg = 3 * j := by
  rw [show (3 : Int32) * nI j = nI (3 * j) from pk_mul 3 j]
  exact nI_clamp (by omega)
theorem c3_k {j : Nat} (k : Nat) (h : j < 32) (hk : k < 3) : ((3 : Int32) * nI j + nI k).toNatClampNeg = 3 * j + k := by
  rw [p3_e]
  exact nI_clamp (by omega)
theorem c3_z {j : Nat} (h : j < 32) : ((3 : Int32) * nI j + (0 : Int32)).toNatClampNeg = 3 * j + 0 := c3_k 0 h (by decide)
theorem c3_1 {j : Nat} (h : j < 32) : ((3 : Int32) * nI j + (1 : Int32)).toNatClampNeg = 3 * j + 1 := c3_k 1 h (by decide)
theorem c3_2 {j : Nat} (h : j < 32) : ((3 : Int32) * nI j + (2 : Int32)).toNatClampNeg = 3 * j + 2 := c3_k 2 h (by decide)
theorem i_ext {x y : Int32} (h : ∀ i, i < 32 → x.toBitVec.getLsbD i = y.toBitVec.getLsbD i) : x = y := Int32.toBitVec_inj.1 (BitVec.eq_of_getLsbD_eq h)
theorem maj (k a b c : Int32) : (((k ^^^ a) &&& (k ^^^ b)) ||| ((k ^^^ a) &&& (k ^^^ c))) ||| ((k ^^^ b) &&& (k ^^^ c)) = k ^^^ f_Mo_two a b c := by
  apply i_ext
  intro i hi
  unfold f_Mo_two
  simp only [Int32.toBitVec_or, Int32.toBitVec_and, Int32.toBitVec_xor, BitVec.getLsbD_or, BitVec.getLsbD_and, BitVec.getLsbD_xor]
  cases k.toBitVec.getLsbD i <;> cases a.toBitVec.getLsbD i <;> cases b.toBitVec.getLsbD i <;> cases c.toBitVec.getLsbD i <;> rfl
theorem ix0 (x : Int32) : x ^^^ 0 = x := by
  apply i_ext
  intro i hi
  simp
theorem agr_eq {R ke ma : Nat → Int32} (h : RR R ke ma) {r : Int32} (hr : vp_in r 32) : f_Re_agreed R r = f_Mo_valueOf ke ma r := by
  obtain ⟨j, hj, rfl⟩ := vp_in_of hr (by decide)
  unfold f_Re_agreed f_Mo_valueOf
  rw [c3_0 hj, c3_1 hj, c3_2 hj, nI_clamp (by omega), show R (3 * j) = _ from h j hj 0 (by decide), h j hj 1 (by decide), h j hj 2 (by decide)]
  exact maj _ _ _ _
theorem opd_eq {R ke ma : Nat → Int32} (h : RR R ke ma) {r : Int32} (hr : vp_in r 32) : f_Re_operand R r = f_Mo_operand ke ma r := by
  unfold f_Re_operand f_Mo_operand
  by_cases e : r = 0
  · rw [if_pos e, if_pos e]
  · rw [if_neg e, if_neg e, agr_eq h hr]
theorem upd3 (f : Nat → Int32) (b i : Nat) (x y z : Int32) : upd (upd (upd f b x) (b + 1) y) (b + 2) z i = if i = b then x else if i = b + 1 then y else if i = b + 2 then z else f i := by
  unfold upd
  (repeat' split) <;> first | rfl | omega
theorem rr_put {R ke ma : Nat → Int32} (h : RR R ke ma) {r : Int32} (hr : vp_in r 32) (v : Int32) : RR (f_Re_put R r v) (f_Mo_put ke ma r v).1 (f_Mo_put ke ma r v).2 := by
  obtain ⟨j, hj, rfl⟩ := vp_in_of hr (by decide)
  intro q hq c hc
  unfold f_Re_put f_Mo_put
  dsimp only
  rw [c3_0 hj, c3_1 hj, c3_2 hj, c3_z hj, nI_clamp (by omega), Nat.add_zero, upd3, upd3]
  by_cases e : q = j
  · subst e
    rw [pk_us]
    rcases (show c = 0 ∨ c = 1 ∨ c = 2 by omega) with rfl | rfl | rfl
    · rw [if_pos (by omega), if_pos (by omega), ix0]
    · rw [if_neg (by omega), if_pos (by omega), if_neg (by omega), if_pos (by omega), ix0]
    · rw [if_neg (by omega), if_neg (by omega), if_pos (by omega), if_neg (by omega), if_neg (by omega), if_pos (by omega), ix0]
  · rw [if_neg (by omega), if_neg (by omega), if_neg (by omega), if_neg (by omega), if_neg (by omega), if_neg (by omega), pk_un e]
    exact h q hq c hc
theorem ile {w a b : Int32} (h : a.toInt + 1 = b.toInt) : b ≤ w ↔ ¬ w ≤ a := by
  rw [Int32.le_iff_toInt_le, Int32.le_iff_toInt_le]
  omega
theorem out_iff {w M N : Int32} (h : M.toInt + 1 = N.toInt) : f_Mo_outside w M = 0 ↔ (¬ w < 0 ∧ ¬ N ≤ w) := by
  unfold f_Mo_outside
  rw [ile h]
  by_cases h1 : w < 0
  · rw [if_pos h1]; exact ⟨fun q => absurd q (by decide), fun q => absurd h1 q.1⟩
  · rw [if_neg h1]
    by_cases h2 : w ≤ M
    · rw [if_pos h2]; exact ⟨fun _ => ⟨h1, fun q => q h2⟩, fun _ => rfl⟩
    · rw [if_neg h2]; exact ⟨fun q => absurd q (by decide), fun q => absurd h2 q.2⟩
theorem word_iff {w : Int32} : ¬ f_V_isWord w = 0 ↔ f_Mo_outside w (63 : Int32) = 0 := by
  rw [out_iff (N := 64) (by decide)]
  unfold f_V_isWord
  by_cases h1 : w < 0
  · rw [if_pos h1]; exact ⟨fun q => absurd rfl q, fun q => absurd h1 q.1⟩
  · rw [if_neg h1]
    by_cases h2 : (64 : Int32) ≤ w
    · rw [if_pos h2]; exact ⟨fun q => absurd rfl q, fun q => absurd h2 q.2⟩
    · rw [if_neg h2]; exact ⟨fun _ => ⟨h1, h2⟩, fun _ => by decide⟩
theorem reg_iff {w : Int32} : ¬ f_V_isRegister w = 0 ↔ f_Mo_outside w (31 : Int32) = 0 := by
  rw [out_iff (N := 32) (by decide)]
  unfold f_V_isRegister
  by_cases h1 : w < 0
  · rw [if_pos h1]; exact ⟨fun q => absurd rfl q, fun q => absurd h1 q.1⟩
  · rw [if_neg h1]
    by_cases h2 : (32 : Int32) ≤ w
    · rw [if_pos h2]; exact ⟨fun q => absurd rfl q, fun q => absurd h2 q.2⟩
    · rw [if_neg h2]; exact ⟨fun _ => ⟨h1, h2⟩, fun _ => by decide⟩
theorem nn {p q : Prop} (h : ¬ p ↔ q) (hq : ¬ q) : p := Classical.byContradiction fun hp => hq (h.mp hp)
theorem bit_iff {x b : Int32} : ¬ f_V_isBit x b = 0 ↔ f_Mo_noBit x b = 0 := by
  unfold f_V_isBit f_Mo_noBit
  have e0 := out_iff (w := x) (M := 167) (N := 168) (by decide)
  by_cases h1 : x < 0
  · rw [if_pos h1, if_neg (fun q => (e0.mp q).1 h1)]; exact ⟨fun q => absurd rfl q, fun q => absurd q (by decide)⟩
  · rw [if_neg h1]
    by_cases h2 : (168 : Int32) ≤ x
    · rw [if_pos h2, if_neg (fun q => (e0.mp q).2 h2)]; exact ⟨fun q => absurd rfl q, fun q => absurd q (by decide)⟩
    · rw [if_neg h2, if_pos (e0.mpr ⟨h1, h2⟩)]
      have sub : ∀ (M N : Int32), M.toInt + 1 = N.toInt → ((¬ (if 0 ≤ b then (if N ≤ b then (0 : Int32) else 1) else 0) = 0) ↔ (if f_Mo_outside b M = 0 then (0 : Int32) else 1) = 0) := by
        intro M N hMN
        have e1 := out_iff (w := b) hMN
        by_cases h3 : 0 ≤ b
        · rw [if_pos h3]
          by_cases h4 : N ≤ b
          · rw [if_pos h4, if_neg (fun q => (e1.mp q).2 h4)]; exact ⟨fun q => absurd rfl q, fun q => absurd q (by decide)⟩
          · rw [if_neg h4, if_pos (e1.mpr ⟨Int32.not_lt.mpr h3, h4⟩)]; exact ⟨fun _ => rfl, fun _ => by decide⟩
        · rw [if_neg h3, if_neg (fun q => (e1.mp q).1 (Int32.not_le.mp h3))]; exact ⟨fun q => absurd rfl q, fun q => absurd q (by decide)⟩
      by_cases h5 : (64 : Int32) ≤ x
      · by_cases h6 : (160 : Int32) ≤ x
        · rw [if_pos h5, if_pos h6, if_pos h5, if_pos h6]; exact sub 37 38 (by decide)
        · rw [if_pos h5, if_neg h6, if_pos h5, if_neg h6]; exact sub 31 32 (by decide)
      · rw [if_neg h5, if_neg h5]; exact sub 38 39 (by decide)
theorem bit_cases {x b : Int32} (h : ¬ f_V_isBit x b = 0) : ∃ p k : Nat, x = nI p ∧ b = nI k ∧ p < 168 ∧ ((p < 64 ∧ k < 39) ∨ (64 ≤ p ∧ p < 160 ∧ k < 32) ∨ (160 ≤ p ∧ k < 38)) := by
  obtain ⟨p, hp, rfl⟩ := vp_in_of (in_bit h) (by decide)
  have h2 := bit_iff.mp h
  unfold f_Mo_noBit at h2
  by_cases h0 : f_Mo_outside (nI p) (167 : Int32) = 0
  · rw [if_pos h0] at h2
    have sub : ∀ (M : Int32) (n : Nat), M.toInt + 1 = (n : Int) → n < 2 ^ 31 → (if f_Mo_outside b M = 0 then (0 : Int32) else 1) = 0 → ∃ k : Nat, k < n ∧ b = nI k := by
      intro M n hM hn hq
      by_cases h3 : f_Mo_outside b M = 0
      · exact vp_in_of (in_out hM h3) hn
      · rw [if_neg h3] at hq; exact absurd hq (by decide)
    by_cases h5 : (64 : Int32) ≤ nI p
    · have g5 : 64 ≤ p := (nI_leI (by decide) (by omega)).mp h5
      by_cases h6 : (160 : Int32) ≤ nI p
      · have g6 : 160 ≤ p := (nI_leI (by decide) (by omega)).mp h6
        rw [if_pos h5, if_pos h6] at h2
        obtain ⟨k, hk, rfl⟩ := sub 37 38 (by decide) (by decide) h2
        exact ⟨p, k, rfl, rfl, hp, Or.inr (Or.inr ⟨g6, hk⟩)⟩
      · have g6 : p < 160 := Nat.not_le.mp fun q => h6 ((nI_leI (by decide) (by omega)).mpr q)
        rw [if_pos h5, if_neg h6] at h2
        obtain ⟨k, hk, rfl⟩ := sub 31 32 (by decide) (by decide) h2
        exact ⟨p, k, rfl, rfl, hp, Or.inr (Or.inl ⟨g5, g6, hk⟩)⟩
    · have g5 : p < 64 := Nat.not_le.mp fun q => h5 ((nI_leI (by decide) (by omega)).mpr q)
      rw [if_neg h5] at h2
      obtain ⟨k, hk, rfl⟩ := sub 38 39 (by decide) (by decide) h2
      exact ⟨p, k, rfl, rfl, hp, Or.inl ⟨g5, hk⟩⟩
  · rw [if_neg h0] at h2; exact absurd h2 (by decide)
theorem i32x (k x y : Int32) : k ^^^ (x ^^^ y) = (k ^^^ x) ^^^ y := by
  apply i_ext
  intro i hi
  simp only [Int32.toBitVec_xor, BitVec.getLsbD_xor]
  cases k.toBitVec.getLsbD i <;> cases x.toBitVec.getLsbD i <;> cases y.toBitVec.getLsbD i <;> rfl
/-- a flipped bit on both sides -/
theorem inv_eq {K L1 L2 wg li : Nat → Int64} {R wr ke ma : Nat → Int32} {x b : Int32} (hM : RM K wr wg) (hC : RC L1 L2 li) (hR : RR R ke ma) (h : ¬ f_V_isBit x b = 0) :
    RM (f_V_invert K L1 L2 R x b).1 wr (f_Mo_change wg ma li x b).1 ∧ RC (f_V_invert K L1 L2 R x b).2.1 (f_V_invert K L1 L2 R x b).2.2.1 (f_Mo_change wg ma li x b).2.2 ∧ RR (f_V_invert K L1 L2 R x b).2.2.2 ke (f_Mo_change wg ma li x b).2.1 := by
  obtain ⟨p, k, rfl, rfl, hp, hc⟩ := bit_cases h
  unfold f_V_invert f_Mo_change
  rcases hc with ⟨h1, hk⟩ | ⟨h1, h2, hk⟩ | ⟨h1, hk⟩
  · have g : ¬ (64 : Int32) ≤ nI p := nI_ge (b := 64) h1 (by decide)
    rw [if_neg g, if_neg g]
    refine ⟨fun w hw => ?_, hC, hR⟩
    rw [nI_clamp (by omega)]
    by_cases e : w = p
    · subst e
      have hl := flip_lo (n := 39) (by decide) hk (hM w hw).2
      show vp_updL K w _ w = f_Mo_encoded (wr w) ^^^ vp_updL wg w _ w ∧ wLo 39 (vp_updL wg w _ w)
      rw [pk_uLs, pk_uLs, (hM w hw).1]
      exact ⟨(xor3 _ _ _).symm, hl.1⟩
    · show vp_updL K p _ w = f_Mo_encoded (wr w) ^^^ vp_updL wg p _ w ∧ wLo 39 (vp_updL wg p _ w)
      rw [pk_uLn e, pk_uLn e]
      exact hM w hw
  · have g : (64 : Int32) ≤ nI p := nI_le (a := 64) h1 (by omega)
    have g2 : ¬ (160 : Int32) ≤ nI p := nI_ge (b := 160) h2 (by decide)
    rw [if_pos g, if_neg g2, if_pos g, if_neg g2]
    refine ⟨hM, hC, fun r hr c hcc => ?_⟩
    rw [show nI p - (64 : Int32) = nI (p - 64) from pk_sub h1, nI_clamp (by omega)]
    show upd R (p - 64) _ (3 * r + c) = ke r ^^^ upd ma (p - 64) _ (3 * r + c)
    by_cases e : 3 * r + c = p - 64
    · rw [← e, pk_us, pk_us, hR r hr c hcc, i32x]
    · rw [pk_un e, pk_un e]
      exact hR r hr c hcc
  · have g : (64 : Int32) ≤ nI p := nI_le (a := 64) (by omega) (by omega)
    have g2 : (160 : Int32) ≤ nI p := nI_le (a := 160) h1 (by omega)
    rw [if_pos g, if_pos g2, if_pos g, if_pos g2]
    rw [show nI p - (160 : Int32) = nI (p - 160) from pk_sub h1, nI_clamp (n := p - 160) (by omega)]
    by_cases h4 : 164 ≤ p
    · have g3 : (164 : Int32) ≤ nI p := nI_le (a := 164) h4 (by omega)
      rw [if_pos g3, show nI p - (164 : Int32) = nI (p - 164) from pk_sub h4, nI_clamp (n := p - 164) (by omega)]
      refine ⟨hM, fun q hq => ?_, hR⟩
      have hq0 := hC q hq
      have hd := hC (p - 164) (by omega)
      show L1 q = vp_updL li (p - 160) _ q ∧ vp_updL L2 (p - 164) _ q = vp_updL li (p - 160) _ (4 + q) ∧ wLo 38 (vp_updL li (p - 160) _ q) ∧ wLo 38 (vp_updL li (p - 160) _ (4 + q))
      rw [pk_uLn (j := q) (show q ≠ p - 160 by omega)]
      by_cases e : q = p - 164
      · have e2 : 4 + q = p - 160 := by omega
        rw [← e, ← e2, pk_uLs, pk_uLs, hq0.2.1]
        exact ⟨hq0.1, rfl, hq0.2.2.1, (flip_lo (n := 38) (by decide) hk hq0.2.2.2).1⟩
      · rw [pk_uLn e, pk_uLn (j := 4 + q) (show 4 + q ≠ p - 160 by omega)]
        exact hq0
    · have g3 : ¬ (164 : Int32) ≤ nI p := nI_ge (b := 164) (by omega) (by decide)
      rw [if_neg g3]
      refine ⟨hM, fun q hq => ?_, hR⟩
      have hq0 := hC q hq
      show vp_updL L1 (p - 160) _ q = vp_updL li (p - 160) _ q ∧ L2 q = vp_updL li (p - 160) _ (4 + q) ∧ wLo 38 (vp_updL li (p - 160) _ q) ∧ wLo 38 (vp_updL li (p - 160) _ (4 + q))
      rw [pk_uLn (j := 4 + q) (show 4 + q ≠ p - 160 by omega)]
      by_cases e : q = p - 160
      · rw [← e, pk_uLs, pk_uLs, hq0.1]
        exact ⟨rfl, hq0.2.1, (flip_lo (n := 38) (by decide) hk hq0.2.2.1).1, hq0.2.2.2⟩
      · rw [pk_uLn e, pk_uLn e]
        exact hq0
