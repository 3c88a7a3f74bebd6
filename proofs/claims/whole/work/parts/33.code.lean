/-! The code of a word -/
theorem or_xor {a b : Nat} (h : a &&& b = 0) : a ||| b = a ^^^ b := by
  apply Nat.eq_of_testBit_eq
  intro i
  have hi : (a &&& b).testBit i = false := by rw [h]; exact Nat.zero_testBit i
  rw [Nat.testBit_and] at hi
  rw [Nat.testBit_or, Nat.testBit_xor]
  cases ha : a.testBit i <;> cases hb : b.testBit i <;> simp_all
theorem and_0 {x y m n : Nat} (h : m &&& n = 0) : (x &&& m) &&& (y &&& n) = 0 := by
  have : (x &&& m) &&& (y &&& n) = (x &&& y) &&& (m &&& n) := by
    apply Nat.eq_of_testBit_eq
    intro i
    simp only [Nat.testBit_and]
    cases x.testBit i <;> cases y.testBit i <;> cases m.testBit i <;> cases n.testBit i <;> rfl
  rw [this, h, Nat.and_zero]
theorem xor_and_0 {a b c : Nat} (h1 : a &&& c = 0) (h2 : b &&& c = 0) : (a ^^^ b) &&& c = 0 := by rw [Nat.and_xor_distrib_right, h1, h2]; rfl
theorem dx (a b k : Nat) : (a ^^^ b) / 2 ^ k = a / 2 ^ k ^^^ b / 2 ^ k := Nat.xor_div_two_pow
def GX (a : Nat) : Nat := ((((a / 2 ^ 3 &&& 1) ^^^ (a / 2 ^ 4 &&& 14)) ^^^ (a / 2 ^ 5 &&& 2032)) ^^^ (a / 2 ^ 6 &&& 67106816)) ^^^ (a / 2 ^ 7 &&& 4227858432)
theorem xor10 (a b c d e f g h i j : Nat) : (((((a ^^^ b) ^^^ (c ^^^ d)) ^^^ (e ^^^ f)) ^^^ (g ^^^ h)) ^^^ (i ^^^ j)) = ((((a ^^^ c) ^^^ e) ^^^ g) ^^^ i) ^^^ ((((b ^^^ d) ^^^ f) ^^^ h) ^^^ j) := by
  apply Nat.eq_of_testBit_eq
  intro k
  simp only [Nat.testBit_xor]
  cases a.testBit k <;> cases b.testBit k <;> cases c.testBit k <;> cases d.testBit k <;> cases e.testBit k <;> cases f.testBit k <;> cases g.testBit k <;> cases h.testBit k <;> cases i.testBit k <;> cases j.testBit k <;> rfl
theorem GX_xor (a b : Nat) : GX (a ^^^ b) = GX a ^^^ GX b := by
  unfold GX
  rw [dx, dx, dx, dx, dx, Nat.and_xor_distrib_right, Nat.and_xor_distrib_right, Nat.and_xor_distrib_right, Nat.and_xor_distrib_right, Nat.and_xor_distrib_right]
  exact xor10 _ _ _ _ _ _ _ _ _ _
theorem gath_num (x : Int64) : uN (f_Me_gathered x) = GX (uN x) := by
  unfold f_Me_gathered GX
  rw [uN_or', uN_or', uN_or', uN_or', uN_and, uN_and, uN_and, uN_and, uN_and,
    show uN (u_lush x (3 : Int32)) = uN x / 2 ^ 3 from uN_lush x (k := 3) (by decide), show uN (u_lush x (4 : Int32)) = uN x / 2 ^ 4 from uN_lush x (k := 4) (by decide), show uN (u_lush x (5 : Int32)) = uN x / 2 ^ 5 from uN_lush x (k := 5) (by decide), show uN (u_lush x (6 : Int32)) = uN x / 2 ^ 6 from uN_lush x (k := 6) (by decide), show uN (u_lush x (7 : Int32)) = uN x / 2 ^ 7 from uN_lush x (k := 7) (by decide),
    show uN (1 : Int64) = 1 by decide, show uN (14 : Int64) = 14 by decide, show uN (2032 : Int64) = 2032 by decide, show uN (67106816 : Int64) = 67106816 by decide, show uN (4227858432 : Int64) = 4227858432 by decide]
  have h1 : (uN x / 2 ^ 3 &&& 1) &&& (uN x / 2 ^ 4 &&& 14) = 0 := and_0 (by decide)
  rw [or_xor h1]
  have h2 : ((uN x / 2 ^ 3 &&& 1) ^^^ (uN x / 2 ^ 4 &&& 14)) &&& (uN x / 2 ^ 5 &&& 2032) = 0 := xor_and_0 (and_0 (by decide)) (and_0 (by decide))
  rw [or_xor h2]
  have h3 : (((uN x / 2 ^ 3 &&& 1) ^^^ (uN x / 2 ^ 4 &&& 14)) ^^^ (uN x / 2 ^ 5 &&& 2032)) &&& (uN x / 2 ^ 6 &&& 67106816) = 0 := xor_and_0 (xor_and_0 (and_0 (by decide)) (and_0 (by decide))) (and_0 (by decide))
  rw [or_xor h3]
  have h4 : ((((uN x / 2 ^ 3 &&& 1) ^^^ (uN x / 2 ^ 4 &&& 14)) ^^^ (uN x / 2 ^ 5 &&& 2032)) ^^^ (uN x / 2 ^ 6 &&& 67106816)) &&& (uN x / 2 ^ 7 &&& 4227858432) = 0 := xor_and_0 (xor_and_0 (xor_and_0 (and_0 (by decide)) (and_0 (by decide))) (and_0 (by decide))) (and_0 (by decide))
  rw [or_xor h4]
/-- the places of the data -/
def dpos (k : Nat) : Bool := decide (3 ≤ k) && decide (k &&& (k - 1) ≠ 0)
def didx : Nat → Nat
  | 0 => 0
  | k + 1 => didx k + (if dpos k then 1 else 0)
theorem d_data : ∀ k : Fin 39, 3 ≤ k.val → ((f_Mo_isData (nI k.val) = 0) ↔ dpos k.val = false) := by decide +kernel
theorem d_idx : ∀ k : Fin 40, didx k.val ≤ 32 ∧ (dpos k.val = true → k.val < 39 → didx k.val < 32) := by decide +kernel
def dnx (a : Nat) : Nat → Nat
  | 0 => 0
  | m + 1 => dnx a m ^^^ (if dpos m = true ∧ a / 2 ^ m % 2 = 1 then 2 ^ didx m else 0)
theorem dnx_lt (a : Nat) : ∀ m, dnx a m < 2 ^ didx m
  | 0 => by show (0 : Nat) < 2 ^ 0; decide
  | m + 1 => by
    have h := dnx_lt a m
    show dnx a m ^^^ (if dpos m = true ∧ a / 2 ^ m % 2 = 1 then 2 ^ didx m else 0) < 2 ^ (didx m + (if dpos m then 1 else 0))
    by_cases hd : dpos m = true
    · rw [if_pos (show (dpos m) = true from hd)]
      have h2 : dnx a m < 2 ^ (didx m + 1) := Nat.lt_of_lt_of_le h (Nat.pow_le_pow_right (by decide) (by omega))
      refine Nat.xor_lt_two_pow h2 ?_
      split
      · exact Nat.pow_lt_pow_right (by decide) (by omega)
      · exact Nat.two_pow_pos _
    · rw [if_neg hd, if_neg (fun q => hd q.1), Nat.xor_zero]
      exact h
theorem fold_xor (f : Nat → Nat → Nat) (p : Nat → Bool) (c : Nat → Nat) (s : Nat → Nat) (h0 : ∀ a, f a 0 = 0) (hs : ∀ a m, f a (m + 1) = f a m ^^^ (if p m = true ∧ a / 2 ^ s m % 2 = 1 then c m else 0)) (a b : Nat) : ∀ m, f (a ^^^ b) m = f a m ^^^ f b m
  | 0 => by rw [h0, h0, h0]; rfl
  | m + 1 => by
    rw [hs, hs, hs, fold_xor f p c s h0 hs a b m, bit_xor]
    cases hp : p m with
    | false => simp
    | true =>
      rcases (show a / 2 ^ s m % 2 = 0 ∨ a / 2 ^ s m % 2 = 1 by omega) with e1 | e1 <;> rcases (show b / 2 ^ s m % 2 = 0 ∨ b / 2 ^ s m % 2 = 1 by omega) with e2 | e2 <;> rw [e1, e2] <;> simp
      · rw [Nat.xor_assoc]
      · rw [Nat.xor_assoc, Nat.xor_comm (f b m) (c m), ← Nat.xor_assoc]
      · rw [Nat.xor_assoc (f a m) (c m), ← Nat.xor_assoc (c m), Nat.xor_comm (c m) (f b m), Nat.xor_assoc (f b m), Nat.xor_self, Nat.xor_zero]
theorem dnx_xor (a b m : Nat) : dnx (a ^^^ b) m = dnx a m ^^^ dnx b m := fold_xor dnx dpos (fun m => 2 ^ didx m) (fun m => m) (fun _ => rfl) (fun _ _ => rfl) a b m
theorem or_i {v i : Nat} (hv : v < 2 ^ i) (hi : i < 32) : nI v ||| ((1 : Int32) <<< (nI i &&& 31)) = nI (v ^^^ 2 ^ i) := by
  have h : ∀ k : Fin 32, (1 : Int32) <<< (nI k.val &&& 31) = nI (2 ^ k.val) := by decide +kernel
  have hz : v &&& 2 ^ i = 0 := by
    apply Nat.eq_of_testBit_eq
    intro k
    rw [Nat.testBit_and, Nat.testBit_two_pow, Nat.zero_testBit]
    by_cases hk : i = k
    · subst hk; rw [Nat.testBit_lt_two_pow hv]; rfl
    · simp [hk]
  rw [h ⟨i, hi⟩, ← or_xor hz]
  apply Int32.toBitVec_inj.1
  show BitVec.ofNat 32 v ||| BitVec.ofNat 32 (2 ^ i) = BitVec.ofNat 32 (v ||| 2 ^ i)
  apply BitVec.eq_of_getLsbD_eq
  intro k hk
  simp [BitVec.getLsbD_ofNat, hk]
theorem data_l (x : Int64) : ∀ n j : Nat, j + n = 39 → 3 ≤ j → f_Mo_dataOf_l7 x n j (nI (dnx (uN x) j)) (nI (didx j)) = nI (dnx (uN x) 39) := by
  intro n
  induction n with
  | zero => intro j hj _; rw [show j = 39 by omega]; rfl
  | succ n ih =>
    intro j hj h3
    have hd := d_data ⟨j, by omega⟩ h3
    have hi := d_idx ⟨j, by omega⟩
    have key : f_Mo_dataOf_l7 x (n + 1) j (nI (dnx (uN x) j)) (nI (didx j)) = f_Mo_dataOf_l7 x n (j + 1) (nI (dnx (uN x) (j + 1))) (nI (didx (j + 1))) := by
      by_cases hp : dpos j = true
      · have e1 : didx (j + 1) = didx j + 1 := by show didx j + (if dpos j then 1 else 0) = _; rw [if_pos hp]
        have hnz : ¬ f_Mo_isData (nI j) = 0 := fun q => by have := hd.mp q; rw [hp] at this; cases this
        by_cases hb : uN x / 2 ^ j % 2 = 1
        · have e2 : dnx (uN x) (j + 1) = dnx (uN x) j ^^^ 2 ^ didx j := by show dnx (uN x) j ^^^ (if _ then _ else _) = _; rw [if_pos ⟨hp, hb⟩]
          rw [e1, e2, ← or_i (dnx_lt (uN x) j) (hi.2 hp (by show j < 39; omega)), ← nI_1]
          exact (if_neg hnz).trans (if_pos ((lb x (by omega)).mpr hb))
        · have e2 : dnx (uN x) (j + 1) = dnx (uN x) j := by show dnx (uN x) j ^^^ (if _ then _ else _) = _; rw [if_neg (fun q => hb q.2), Nat.xor_zero]
          rw [e1, e2, ← nI_1]
          exact (if_neg hnz).trans (if_neg (fun q => hb ((lb x (by omega)).mp q)))
      · have e1 : didx (j + 1) = didx j := by show didx j + (if dpos j then 1 else 0) = _; rw [if_neg hp]; rfl
        have e2 : dnx (uN x) (j + 1) = dnx (uN x) j := by show dnx (uN x) j ^^^ (if _ then _ else _) = _; rw [if_neg (fun q => hp q.1), Nat.xor_zero]
        have hz : f_Mo_isData (nI j) = 0 := hd.mpr (by cases h : dpos j with | false => rfl | true => exact absurd h hp)
        rw [e1, e2]
        exact if_pos hz
    rw [key, ih (j + 1) (by omega) (by omega)]
theorem data_num (x : Int64) : f_Mo_dataOf x = nI (dnx (uN x) 39) := by
  have h : dnx (uN x) 3 = 0 := by
    have h0 : ∀ k : Fin 3, dpos k.val = false := by decide
    have a0 : dnx (uN x) 1 = 0 := by show (0 : Nat) ^^^ (if _ then _ else _) = 0; rw [if_neg (fun q => by rw [show dpos 0 = false from h0 0] at q; cases q.1)]; rfl
    have a1 : dnx (uN x) 2 = 0 := by show dnx (uN x) 1 ^^^ (if _ then _ else _) = 0; rw [a0, if_neg (fun q => by rw [show dpos 1 = false from h0 1] at q; cases q.1)]; rfl
    show dnx (uN x) 2 ^^^ (if _ then _ else _) = 0
    rw [a1, if_neg (fun q => by rw [show dpos 2 = false from h0 2] at q; cases q.1)]; rfl
  have := data_l x 36 3 (by decide) (by decide)
  rw [h] at this
  exact this
theorem dnx_GX {a : Nat} (h : a < 2 ^ 39) : dnx a 39 = GX a := by
  have hb : ∀ k : Fin 39, dnx (2 ^ k.val) 39 = GX (2 ^ k.val) := by decide +kernel
  exact lin_ext (F := fun a => dnx a 39) (G := GX) (fun a b => dnx_xor a b 39) GX_xor 39 (fun k hk => hb ⟨k, hk⟩) a h
