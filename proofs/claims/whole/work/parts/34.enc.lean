/-! The code that a value gets -/
def u32 (v : Int32) : Nat := v.toBitVec.toNat
theorem u32_lt (v : Int32) : u32 v < 2 ^ 32 := v.toBitVec.isLt
theorem nI_u32 (v : Int32) : nI (u32 v) = v := by
  apply Int32.toBitVec_inj.1
  show BitVec.ofNat 32 v.toBitVec.toNat = v.toBitVec
  simp
theorem u32_nI {n : Nat} (h : n < 2 ^ 32) : u32 (nI n) = n := pk_tn h
/-- a value's long, under a mask of 32 bits -/
theorem uN_i2l (v : Int32) {m : Nat} {M : Int64} (hM : uN M = m) (hm : m < 2 ^ 32) : uN (v.toInt64 &&& M) = u32 v &&& m := by
  rw [uN_and, hM]
  have h : uN v.toInt64 % 2 ^ 32 = u32 v := by
    show (v.toBitVec.signExtend 64).toNat % 2 ^ 32 = v.toBitVec.toNat
    have := BitVec.toNat_signExtend v.toBitVec (v := 64)
    rw [this]
    have hl := v.toBitVec.isLt
    rw [BitVec.toNat_setWidth]
    split <;> omega
  have e1 : (uN v.toInt64 &&& m) % 2 ^ 32 = u32 v &&& m := by rw [Nat.and_mod_two_pow, h, Nat.mod_eq_of_lt hm]
  have e2 : uN v.toInt64 &&& m < 2 ^ 32 := Nat.lt_of_le_of_lt Nat.and_le_right hm
  rw [Nat.mod_eq_of_lt e2] at e1
  exact e1
def SX (c : Nat) : Nat := (((((c &&& 1) * 2 ^ 3) ^^^ ((c &&& 14) * 2 ^ 4)) ^^^ ((c &&& 2032) * 2 ^ 5)) ^^^ ((c &&& 67106816) * 2 ^ 6)) ^^^ ((c &&& 4227858432) * 2 ^ 7)
theorem mx (a b k : Nat) : (a ^^^ b) * 2 ^ k = (a * 2 ^ k) ^^^ (b * 2 ^ k) := by
  rw [← Nat.shiftLeft_eq, ← Nat.shiftLeft_eq, ← Nat.shiftLeft_eq]
  apply Nat.eq_of_testBit_eq
  intro i
  simp only [Nat.testBit_xor, Nat.testBit_shiftLeft]
  cases decide (i ≥ k) <;> simp
theorem SX_xor (a b : Nat) : SX (a ^^^ b) = SX a ^^^ SX b := by
  unfold SX
  rw [Nat.and_xor_distrib_right, Nat.and_xor_distrib_right, Nat.and_xor_distrib_right, Nat.and_xor_distrib_right, Nat.and_xor_distrib_right, mx, mx, mx, mx, mx]
  exact xor10 _ _ _ _ _ _ _ _ _ _
theorem mm {c m k n : Nat} (hm : m * 2 ^ k = n) : (c &&& m) * 2 ^ k = (c * 2 ^ k) &&& n := by
  rw [← hm, ← Nat.shiftLeft_eq, ← Nat.shiftLeft_eq, ← Nat.shiftLeft_eq]
  apply Nat.eq_of_testBit_eq
  intro i
  simp only [Nat.testBit_and, Nat.testBit_shiftLeft]
  cases decide (i ≥ k) <;> simp
theorem spr_num (v : Int32) : uN (f_Me_spread v) = SX (u32 v) := by
  have hv := u32_lt v
  have e : ∀ (M : Int64) (m k : Nat), uN M = m → m < 2 ^ 32 → k < 64 → m * 2 ^ k < 18446744073709551616 → uN (u_lshl (v.toInt64 &&& M) (nI k)) = (u32 v &&& m) * 2 ^ k := by
    intro M m k h1 h2 h3 h4
    rw [uN_lshl _ h3, uN_i2l v h1 h2]
    exact Nat.mod_eq_of_lt (Nat.lt_of_le_of_lt (Nat.mul_le_mul_right _ Nat.and_le_right) h4)
  unfold f_Me_spread SX
  rw [uN_or', uN_or', uN_or', uN_or',
    show uN (u_lshl (v.toInt64 &&& (1 : Int64)) (3 : Int32)) = (u32 v &&& 1) * 2 ^ 3 from e 1 1 3 (by decide) (by decide) (by decide) (by decide),
    show uN (u_lshl (v.toInt64 &&& (14 : Int64)) (4 : Int32)) = (u32 v &&& 14) * 2 ^ 4 from e 14 14 4 (by decide) (by decide) (by decide) (by decide),
    show uN (u_lshl (v.toInt64 &&& (2032 : Int64)) (5 : Int32)) = (u32 v &&& 2032) * 2 ^ 5 from e 2032 2032 5 (by decide) (by decide) (by decide) (by decide),
    show uN (u_lshl (v.toInt64 &&& (67106816 : Int64)) (6 : Int32)) = (u32 v &&& 67106816) * 2 ^ 6 from e 67106816 67106816 6 (by decide) (by decide) (by decide) (by decide),
    show uN (u_lshl (v.toInt64 &&& (4227858432 : Int64)) (7 : Int32)) = (u32 v &&& 4227858432) * 2 ^ 7 from e 4227858432 4227858432 7 (by decide) (by decide) (by decide) (by decide)]
  rw [mm (n := 8) (by decide), mm (n := 224) (by decide), mm (n := 65024) (by decide), mm (n := 4294836224) (by decide), mm (n := 541165879296) (by decide)]
  have h1 : ((u32 v * 2 ^ 3) &&& 8) &&& ((u32 v * 2 ^ 4) &&& 224) = 0 := and_0 (by decide)
  rw [or_xor h1]
  have h2 : (((u32 v * 2 ^ 3) &&& 8) ^^^ ((u32 v * 2 ^ 4) &&& 224)) &&& ((u32 v * 2 ^ 5) &&& 65024) = 0 := xor_and_0 (and_0 (by decide)) (and_0 (by decide))
  rw [or_xor h2]
  have h3 : ((((u32 v * 2 ^ 3) &&& 8) ^^^ ((u32 v * 2 ^ 4) &&& 224)) ^^^ ((u32 v * 2 ^ 5) &&& 65024)) &&& ((u32 v * 2 ^ 6) &&& 4294836224) = 0 := xor_and_0 (xor_and_0 (and_0 (by decide)) (and_0 (by decide))) (and_0 (by decide))
  rw [or_xor h3]
  have h4 : (((((u32 v * 2 ^ 3) &&& 8) ^^^ ((u32 v * 2 ^ 4) &&& 224)) ^^^ ((u32 v * 2 ^ 5) &&& 65024)) ^^^ ((u32 v * 2 ^ 6) &&& 4294836224)) &&& ((u32 v * 2 ^ 7) &&& 541165879296) = 0 := xor_and_0 (xor_and_0 (xor_and_0 (and_0 (by decide)) (and_0 (by decide))) (and_0 (by decide))) (and_0 (by decide))
  rw [or_xor h4]
/-- the reference's spreading -/
def spx (c : Nat) : Nat → Nat
  | 0 => 0
  | m + 1 => spx c m ^^^ (if dpos m = true ∧ c / 2 ^ didx m % 2 = 1 then 2 ^ m else 0)
theorem spx_lt (c : Nat) : ∀ m, spx c m < 2 ^ m
  | 0 => by show (0 : Nat) < 2 ^ 0; decide
  | m + 1 => by
    have h := spx_lt c m
    show spx c m ^^^ (if _ then _ else _) < 2 ^ (m + 1)
    refine Nat.xor_lt_two_pow (Nat.lt_of_lt_of_le h (Nat.pow_le_pow_right (by decide) (by omega))) ?_
    split
    · exact Nat.pow_lt_pow_right (by decide) (by omega)
    · exact Nat.two_pow_pos _
theorem spx_xor (a b m : Nat) : spx (a ^^^ b) m = spx a m ^^^ spx b m := fold_xor spx dpos (fun m => 2 ^ m) didx (fun _ => rfl) (fun _ _ => rfl) a b m
theorem spx_SX {c : Nat} (h : c < 2 ^ 32) : spx c 39 = SX c := by
  have hb : ∀ k : Fin 32, spx (2 ^ k.val) 39 = SX (2 ^ k.val) := by decide +kernel
  exact lin_ext (F := fun a => spx a 39) (G := SX) (fun a b => spx_xor a b 39) SX_xor 32 (fun k hk => hb ⟨k, hk⟩) c h
theorem ib1 (v : Int32) {i : Nat} (hi : i < 32) : ((v >>> (nI i &&& 31)) &&& (1 : Int32)) = (1 : Int32) ↔ u32 v / 2 ^ i % 2 = 1 := by
  have h : ∀ k : Fin 32, ((nI k.val &&& 31).toBitVec.smod 32).toNat = k.val := by decide +kernel
  have e : (v >>> (nI i &&& 31)).toBitVec = v.toBitVec.sshiftRight i := by
    show v.toBitVec.sshiftRight ((nI i &&& 31).toBitVec.smod 32).toNat = _
    rw [h ⟨i, hi⟩]
  have g1 : (v >>> (nI i &&& 31)).toBitVec.getLsbD 0 = v.toBitVec.getLsbD i := by
    rw [e, BitVec.getLsbD_sshiftRight]
    simp [hi]
  have g2 : (u32 (v >>> (nI i &&& 31))).testBit 0 = (u32 v).testBit i := g1
  rw [Nat.testBit_eq_decide_div_mod_eq, Nat.testBit_eq_decide_div_mod_eq] at g2
  have g3 := decide_eq_decide.mp g2
  rw [Nat.pow_zero, Nat.div_one] at g3
  rw [pk_and _ (m := (1 : Int32)) 1 rfl, ← g3]
  show nI (u32 (v >>> (nI i &&& 31)) % 2) = nI 1 ↔ _
  exact nI_eq (by omega) (by decide)
theorem or_l {b k : Nat} (hb : b &&& 2 ^ k = 0) (hlt : b < 18446744073709551616) (hk : k < 63) : lN b ||| u_lshl (1 : Int64) (nI k) = lN (b ^^^ 2 ^ k) := by
  have h2 : 2 ^ k < 18446744073709551616 := Nat.pow_lt_pow_right (m := k) (n := 64) (by decide) (by omega)
  apply uN_inj
  rw [uN_or', uN_lN hlt, uN_lshl _ (by omega), show uN (1 : Int64) = 1 by decide, Nat.one_mul, Nat.mod_eq_of_lt h2, or_xor hb, uN_lN]
  exact Nat.xor_lt_two_pow (n := 64) hlt h2
theorem lt_and {a k : Nat} (h : a < 2 ^ k) : a &&& 2 ^ k = 0 := by
  apply Nat.eq_of_testBit_eq
  intro i
  rw [Nat.testBit_and, Nat.testBit_two_pow, Nat.zero_testBit]
  by_cases hk : k = i
  · subst hk; rw [Nat.testBit_lt_two_pow h]; rfl
  · simp [hk]
theorem enc_l1 (v : Int32) : ∀ n j : Nat, j + n = 39 → 3 ≤ j → f_Mo_encoded_l7 v n j (lN (spx (u32 v) j)) (nI (didx j)) = f_Mo_encoded_l60 6 0 (lN (spx (u32 v) 39)) (f_Mo_syndrome (lN (spx (u32 v) 39))) := by
  intro n
  induction n with
  | zero => intro j hj _; rw [show j = 39 by omega]; rfl
  | succ n ih =>
    intro j hj h3
    have hd := d_data ⟨j, by omega⟩ h3
    have hi := d_idx ⟨j, by omega⟩
    have hlt : spx (u32 v) j < 18446744073709551616 := Nat.lt_of_lt_of_le (spx_lt (u32 v) j) (show 2 ^ j ≤ 2 ^ 64 from Nat.pow_le_pow_right (by decide) (by omega))
    have key : f_Mo_encoded_l7 v (n + 1) j (lN (spx (u32 v) j)) (nI (didx j)) = f_Mo_encoded_l7 v n (j + 1) (lN (spx (u32 v) (j + 1))) (nI (didx (j + 1))) := by
      by_cases hp : dpos j = true
      · have e1 : didx (j + 1) = didx j + 1 := by show didx j + (if dpos j then 1 else 0) = _; rw [if_pos hp]
        have hnz : ¬ f_Mo_isData (nI j) = 0 := fun q => by have := hd.mp q; rw [hp] at this; cases this
        have hi2 : didx j < 32 := hi.2 hp (by show j < 39; omega)
        by_cases hb : u32 v / 2 ^ didx j % 2 = 1
        · have e2 : spx (u32 v) (j + 1) = spx (u32 v) j ^^^ 2 ^ j := by show spx (u32 v) j ^^^ (if _ then _ else _) = _; rw [if_pos ⟨hp, hb⟩]
          rw [e1, e2, ← or_l (lt_and (spx_lt (u32 v) j)) hlt (by omega), ← nI_1]
          exact (if_neg hnz).trans (if_pos ((ib1 v hi2).mpr hb))
        · have e2 : spx (u32 v) (j + 1) = spx (u32 v) j := by show spx (u32 v) j ^^^ (if _ then _ else _) = _; rw [if_neg (fun q => hb q.2), Nat.xor_zero]
          rw [e1, e2, ← nI_1]
          exact (if_neg hnz).trans (if_neg (fun q => hb ((ib1 v hi2).mp q)))
      · have e1 : didx (j + 1) = didx j := by show didx j + (if dpos j then 1 else 0) = _; rw [if_neg hp]; rfl
        have e2 : spx (u32 v) (j + 1) = spx (u32 v) j := by show spx (u32 v) j ^^^ (if _ then _ else _) = _; rw [if_neg (fun q => hp q.1), Nat.xor_zero]
        have hz : f_Mo_isData (nI j) = 0 := hd.mpr (by cases h : dpos j with | false => rfl | true => exact absurd h hp)
        rw [e1, e2]
        exact if_pos hz
    rw [key, ih (j + 1) (by omega) (by omega)]
theorem enc_1 (v : Int32) : f_Mo_encoded v = f_Mo_encoded_l60 6 0 (lN (spx (u32 v) 39)) (f_Mo_syndrome (lN (spx (u32 v) 39))) := by
  have h : spx (u32 v) 3 = 0 := by
    have h0 : ∀ k : Fin 3, dpos k.val = false := by decide
    have a0 : spx (u32 v) 1 = 0 := by show (0 : Nat) ^^^ (if _ then _ else _) = 0; rw [if_neg (fun q => by rw [show dpos 0 = false from h0 0] at q; cases q.1)]; rfl
    have a1 : spx (u32 v) 2 = 0 := by show spx (u32 v) 1 ^^^ (if _ then _ else _) = 0; rw [a0, if_neg (fun q => by rw [show dpos 1 = false from h0 1] at q; cases q.1)]; rfl
    show spx (u32 v) 2 ^^^ (if _ then _ else _) = 0
    rw [a1, if_neg (fun q => by rw [show dpos 2 = false from h0 2] at q; cases q.1)]; rfl
  have := enc_l1 v 36 3 (by decide) (by decide)
  rw [h] at this
  exact this
/-- the code's own bits -/
def cpx (s : Nat) : Nat → Nat
  | 0 => 0
  | m + 1 => cpx s m ^^^ (if true = true ∧ s / 2 ^ m % 2 = 1 then 2 ^ 2 ^ m else 0)
theorem cpx_xor (a b m : Nat) : cpx (a ^^^ b) m = cpx a m ^^^ cpx b m := fold_xor cpx (fun _ => true) (fun m => 2 ^ 2 ^ m) (fun m => m) (fun _ => rfl) (fun _ _ => rfl) a b m
theorem cpx_0 : ∀ (s : Fin 64) (m : Fin 6), cpx s.val m.val &&& 2 ^ 2 ^ m.val = 0 ∧ cpx s.val m.val < 2 ^ 39 ∧ cpx s.val 6 < 2 ^ 39 ∧ cpx s.val 6 &&& 1 = 0 := by decide +kernel
theorem spx_0 {c : Nat} (h : c < 2 ^ 32) : spx c 39 &&& 4295033111 = 0 := by
  have hb : ∀ k : Fin 32, spx (2 ^ k.val) 39 &&& 4295033111 = 0 := by decide +kernel
  exact lin_ext (F := fun a => spx a 39 &&& 4295033111) (G := fun _ => 0) (fun a b => by show spx (a ^^^ b) 39 &&& _ = _; rw [spx_xor, Nat.and_xor_distrib_right]) (fun _ _ => rfl) 32 (fun k hk => hb ⟨k, hk⟩) c h
theorem spx_at {c : Nat} (h : c < 2 ^ 32) : ∀ m : Fin 6, spx c 39 &&& 2 ^ 2 ^ m.val = 0 := by
  intro m
  have h1 : ∀ m : Fin 6, 4295033111 &&& 2 ^ 2 ^ m.val = 2 ^ 2 ^ m.val := by decide +kernel
  rw [← h1 m, ← Nat.and_assoc, spx_0 h, Nat.zero_and]
theorem enc_l2 {b s : Nat} (hb : b < 2 ^ 39) (hs : s < 64) (hz : ∀ m : Fin 6, b &&& 2 ^ 2 ^ m.val = 0) : ∀ n j : Nat, j + n = 6 → f_Mo_encoded_l60 n j (lN (b ^^^ cpx s j)) (nI s) = f_Mo_encoded_l60 0 6 (lN (b ^^^ cpx s 6)) (nI s) := by
  intro n
  induction n with
  | zero => intro j hj; rw [show j = 6 by omega]
  | succ n ih =>
    intro j hj
    have hc := cpx_0 ⟨s, hs⟩ ⟨j, by omega⟩
    have hlt : b ^^^ cpx s j < 2 ^ 39 := Nat.xor_lt_two_pow hb hc.2.1
    have hz2 : (b ^^^ cpx s j) &&& 2 ^ 2 ^ j = 0 := xor_and_0 (hz ⟨j, by omega⟩) hc.1
    have hp : 2 ^ j < 63 := by
      have : ∀ k : Fin 6, 2 ^ k.val < 63 := by decide
      exact this ⟨j, by omega⟩
    have hsh : ∀ k : Fin 6, (1 : Int32) <<< (nI k.val &&& 31) = nI (2 ^ k.val) := by decide +kernel
    have key : f_Mo_encoded_l60 (n + 1) j (lN (b ^^^ cpx s j)) (nI s) = f_Mo_encoded_l60 n (j + 1) (lN (b ^^^ cpx s (j + 1))) (nI s) := by
      have hbit := ib1 (nI s) (i := j) (by omega)
      rw [u32_nI (by omega)] at hbit
      by_cases hq : s / 2 ^ j % 2 = 1
      · have e2 : cpx s (j + 1) = cpx s j ^^^ 2 ^ 2 ^ j := by show cpx s j ^^^ (if _ then _ else _) = _; rw [if_pos ⟨rfl, hq⟩]
        rw [e2, ← Nat.xor_assoc, ← or_l hz2 (by omega) hp, ← hsh ⟨j, by omega⟩]
        exact if_pos (hbit.mpr hq)
      · have e2 : cpx s (j + 1) = cpx s j := by show cpx s j ^^^ (if _ then _ else _) = _; rw [if_neg (fun q => hq q.2), Nat.xor_zero]
        rw [e2]
        exact if_neg (fun q => hq (hbit.mp q))
    rw [key, ih (j + 1) (by omega)]
/-- the whole code as a number -/
def e2x (c : Nat) : Nat := spx c 39 ^^^ cpx (syf (spx c 39) 39) 6
def EX (c : Nat) : Nat := e2x c ^^^ (cnt (e2x c) 39 % 2)
theorem e2x_xor (a b : Nat) : e2x (a ^^^ b) = e2x a ^^^ e2x b := by
  unfold e2x
  rw [spx_xor, syf_xor, cpx_xor]
  apply Nat.eq_of_testBit_eq
  intro k
  simp only [Nat.testBit_xor]
  cases (spx a 39).testBit k <;> cases (spx b 39).testBit k <;> cases (cpx (syf (spx a 39) 39) 6).testBit k <;> cases (cpx (syf (spx b 39) 39) 6).testBit k <;> rfl
theorem EX_xor (a b : Nat) : EX (a ^^^ b) = EX a ^^^ EX b := by
  unfold EX
  have h : cnt (e2x a ^^^ e2x b) 39 % 2 = (cnt (e2x a) 39 % 2) ^^^ (cnt (e2x b) 39 % 2) := by
    rw [cnt_xor, sx2 (Nat.mod_lt _ (by decide)) (Nat.mod_lt _ (by decide))]
    omega
  rw [e2x_xor, h]
  generalize cnt (e2x a) 39 % 2 = p
  generalize cnt (e2x b) 39 % 2 = q
  apply Nat.eq_of_testBit_eq
  intro k
  simp only [Nat.testBit_xor]
  cases (e2x a).testBit k <;> cases (e2x b).testBit k <;> cases p.testBit k <;> cases q.testBit k <;> rfl
theorem e2x_lt {c : Nat} (h : c < 2 ^ 32) : e2x c < 2 ^ 39 ∧ e2x c &&& 1 = 0 := by
  have hs := syf_lt (spx c 39) 39 (by decide)
  have hc := cpx_0 ⟨_, hs⟩ 0
  refine ⟨Nat.xor_lt_two_pow (spx_lt c 39) hc.2.2.1, xor_and_0 ?_ hc.2.2.2⟩
  have h1 : 4295033111 &&& 1 = 1 := by decide
  rw [← h1, ← Nat.and_assoc, spx_0 h, Nat.zero_and]
theorem EX_lt {c : Nat} (h : c < 2 ^ 32) : EX c < 2 ^ 39 := Nat.xor_lt_two_pow (e2x_lt h).1 (Nat.lt_of_lt_of_le (Nat.mod_lt _ (by decide)) (by decide))
theorem enc_num (v : Int32) : f_Mo_encoded v = lN (EX (u32 v)) := by
  have hc := u32_lt v
  have hs := syf_lt (spx (u32 v) 39) 39 (by decide)
  have hl := spx_lt (u32 v) 39
  rw [enc_1, syn_num, uN_lN (by omega)]
  have h := enc_l2 hl hs (spx_at hc) 6 0 (by decide)
  rw [show cpx (syf (spx (u32 v) 39) 39) 0 = 0 from rfl, Nat.xor_zero] at h
  rw [h]
  have he := e2x_lt hc
  show (if f_Mo_isOdd (lN (e2x (u32 v))) = 0 then lN (e2x (u32 v)) else lN (e2x (u32 v)) ||| (1 : Int64)) = lN (EX (u32 v))
  rw [odd_num, uN_lN (by omega)]
  unfold EX
  rcases (show cnt (e2x (u32 v)) 39 % 2 = 0 ∨ cnt (e2x (u32 v)) 39 % 2 = 1 by omega) with e | e
  · rw [e, if_pos (show nI 0 = 0 from rfl), Nat.xor_zero]
  · rw [e, if_neg (show ¬ nI 1 = 0 by decide)]
    apply uN_inj
    rw [uN_or', uN_lN (by omega), show uN (1 : Int64) = 1 by decide, or_xor he.2, uN_lN]
    exact Nat.xor_lt_two_pow (n := 64) (by omega) (by decide)
/-- what the code is good for -/
theorem EX_syn {c : Nat} (h : c < 2 ^ 32) : syf (EX c) 39 = 0 := by
  have hb : ∀ k : Fin 32, syf (EX (2 ^ k.val)) 39 = 0 := by decide +kernel
  exact lin_ext (F := fun a => syf (EX a) 39) (G := fun _ => 0) (fun a b => by show syf (EX (a ^^^ b)) 39 = _; rw [EX_xor, syf_xor]) (fun _ _ => rfl) 32 (fun k hk => hb ⟨k, hk⟩) c h
theorem EX_par {c : Nat} (h : c < 2 ^ 32) : cnt (EX c) 39 % 2 = 0 := by
  have hb : ∀ k : Fin 32, cnt (EX (2 ^ k.val)) 39 % 2 = 0 := by decide +kernel
  exact lin_ext (F := fun a => cnt (EX a) 39 % 2) (G := fun _ => 0) (fun a b => by
    show cnt (EX (a ^^^ b)) 39 % 2 = _
    rw [EX_xor, cnt_xor, sx2 (Nat.mod_lt _ (by decide)) (Nat.mod_lt _ (by decide))]
    omega) (fun _ _ => rfl) 32 (fun k hk => hb ⟨k, hk⟩) c h
theorem EX_dat {c : Nat} (h : c < 2 ^ 32) : GX (EX c) = c := by
  have hb : ∀ k : Fin 32, GX (EX (2 ^ k.val)) = 2 ^ k.val := by decide +kernel
  exact lin_ext (F := fun a => GX (EX a)) (G := fun a => a) (fun a b => by show GX (EX (a ^^^ b)) = _; rw [EX_xor, GX_xor]) (fun _ _ => rfl) 32 (fun k hk => hb ⟨k, hk⟩) c h
