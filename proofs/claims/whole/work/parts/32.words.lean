/-! Words: parity, number of the wrong bit, over xor -/
theorem sx2 {x y : Nat} (hx : x < 2) (hy : y < 2) : x ^^^ y = (x + y) % 2 := by
  have h : ∀ a b : Fin 2, a.val ^^^ b.val = (a.val + b.val) % 2 := by decide
  exact h ⟨x, hx⟩ ⟨y, hy⟩
theorem bit_xor (a b m : Nat) : (a ^^^ b) / 2 ^ m % 2 = (a / 2 ^ m % 2 + b / 2 ^ m % 2) % 2 := by
  have h := Nat.xor_mod_two_pow (a := a / 2 ^ m) (b := b / 2 ^ m) (n := 1)
  rw [Nat.xor_div_two_pow]
  rw [show (2 : Nat) ^ 1 = 2 from rfl] at h
  rw [h]
  exact sx2 (Nat.mod_lt _ (by decide)) (Nat.mod_lt _ (by decide))
theorem cnt_xor (a b : Nat) : ∀ m, cnt (a ^^^ b) m % 2 = (cnt a m + cnt b m) % 2
  | 0 => rfl
  | m + 1 => by
    have h := cnt_xor a b m
    have g := bit_xor a b m
    simp only [cnt]
    omega
theorem cnt_hi {a n : Nat} (h : a < 2 ^ n) : ∀ m, n ≤ m → cnt a m = cnt a n
  | 0, hm => by rw [show n = 0 by omega]
  | m + 1, hm => by
    by_cases e : n = m + 1
    · rw [e]
    · have h1 : a / 2 ^ m = 0 := Nat.div_eq_of_lt (Nat.lt_of_lt_of_le h (Nat.pow_le_pow_right (by decide) (by omega)))
      simp only [cnt]
      rw [h1, cnt_hi h m (by omega)]
      rfl
theorem nx_xor (a b : Nat) : nI a ^^^ nI b = nI (a ^^^ b) := by
  apply Int32.toBitVec_inj.1
  show BitVec.ofNat 32 a ^^^ BitVec.ofNat 32 b = BitVec.ofNat 32 (a ^^^ b)
  apply BitVec.eq_of_getLsbD_eq
  intro i hi
  simp [BitVec.getLsbD_ofNat, hi]
theorem lg0 {x y : Int64} : lg_cmp x y = 0 ↔ x = y := by
  unfold lg_cmp
  by_cases h1 : x > y
  · rw [if_pos h1]
    refine ⟨fun h => absurd h (by decide), fun h => ?_⟩
    subst h
    exact absurd h1 (by simp)
  · rw [if_neg h1]
    by_cases h2 : x = y
    · rw [if_pos h2]; exact ⟨fun _ => h2, fun _ => rfl⟩
    · rw [if_neg h2]; exact ⟨fun h => absurd h (by decide), fun h => absurd h h2⟩
theorem lb1 (x : Int64) {j : Nat} (hj : j < 64) : uN ((u_lshr x (nI j)) &&& (1 : Int64)) = uN x / 2 ^ j % 2 := by
  have h : ∀ k : Fin 64, (((nI k.val).toInt64 &&& 63).toBitVec.smod 64).toNat = k.val := by decide +kernel
  have e : (u_lshr x (nI j)).toBitVec = x.toBitVec.sshiftRight j := by
    show x.toBitVec.sshiftRight (((nI j).toInt64 &&& 63).toBitVec.smod 64).toNat = _
    rw [h ⟨j, hj⟩]
  have e1 : uN (1 : Int64) = 1 := by decide
  rw [uN_and, e1]
  have e2 : uN (u_lshr x (nI j)) &&& 1 = uN (u_lshr x (nI j)) % 2 ^ 1 := Nat.and_two_pow_sub_one_eq_mod _ 1
  rw [e2]
  have g1 : (u_lshr x (nI j)).toBitVec.getLsbD 0 = x.toBitVec.getLsbD j := by
    rw [e, BitVec.getLsbD_sshiftRight]
    have : ¬ (64 ≤ 0) := by decide
    simp [hj]
  have g2 : (uN (u_lshr x (nI j))).testBit 0 = (uN x).testBit j := g1
  rw [Nat.testBit_eq_decide_div_mod_eq, Nat.testBit_eq_decide_div_mod_eq] at g2
  have g3 := decide_eq_decide.mp g2
  rw [Nat.pow_zero, Nat.div_one] at g3
  generalize uN x / 2 ^ j = t at g3 ⊢
  omega
theorem lb (x : Int64) {j : Nat} (hj : j < 64) : (lg_cmp ((u_lshr x (nI j)) &&& (1 : Int64)) (1 : Int64) = 0) ↔ uN x / 2 ^ j % 2 = 1 := by
  rw [lg0, ← lb1 x hj]
  constructor
  · intro h; rw [h]; decide
  · intro h; exact uN_inj (h.trans (by decide))
theorem odd_l (x : Int64) : ∀ n j : Nat, j + n ≤ 64 → f_Mo_isOdd_l4 x n j (nI (cnt (uN x) j % 2)) = nI (cnt (uN x) (j + n) % 2) := by
  intro n
  induction n with
  | zero => intro j _; rfl
  | succ n ih =>
    intro j hj
    have key : f_Mo_isOdd_l4 x (n + 1) j (nI (cnt (uN x) j % 2)) = f_Mo_isOdd_l4 x n (j + 1) (nI (cnt (uN x) (j + 1) % 2)) := by
      have hc : cnt (uN x) (j + 1) = cnt (uN x) j + uN x / 2 ^ j % 2 := rfl
      by_cases hb : uN x / 2 ^ j % 2 = 1
      · rcases (show cnt (uN x) j % 2 = 0 ∨ cnt (uN x) j % 2 = 1 by omega) with h | h
        · have e : cnt (uN x) (j + 1) % 2 = 1 := by omega
          rw [h, e]
          exact (if_pos ((lb x (by omega)).mpr hb)).trans (if_neg (by decide))
        · have e : cnt (uN x) (j + 1) % 2 = 0 := by omega
          rw [h, e]
          exact (if_pos ((lb x (by omega)).mpr hb)).trans (if_pos rfl)
      · rcases (show cnt (uN x) j % 2 = 0 ∨ cnt (uN x) j % 2 = 1 by omega) with h | h
        · have e : cnt (uN x) (j + 1) % 2 = 0 := by omega
          rw [h, e]
          exact (if_neg (fun q => hb ((lb x (by omega)).mp q))).trans (if_pos rfl)
        · have e : cnt (uN x) (j + 1) % 2 = 1 := by omega
          rw [h, e]
          exact (if_neg (fun q => hb ((lb x (by omega)).mp q))).trans (if_neg (by decide))
    rw [key, ih (j + 1) (by omega), show j + 1 + n = j + (n + 1) by omega]
theorem odd_num (x : Int64) : f_Mo_isOdd x = nI (cnt (uN x) 39 % 2) := odd_l x 39 0 (by decide)
theorem par_eq {x : Int64} (h : wLo 39 x) : f_Lg_bitCount x &&& (1 : Int32) = f_Mo_isOdd x := by
  rw [bc_par, odd_num, cnt_hi h 64 (by decide)]
/-- the number of the wrong bit -/
def syf (a : Nat) : Nat → Nat
  | 0 => 0
  | m + 1 => syf a m ^^^ (if a / 2 ^ m % 2 = 1 then m else 0)
theorem syf_lt (a : Nat) : ∀ m, m ≤ 64 → syf a m < 64
  | 0, _ => by show (0 : Nat) < 64; decide
  | m + 1, h => by
    have h1 := syf_lt a m (by omega)
    have h2 : (if a / 2 ^ m % 2 = 1 then m else 0) < 64 := by split <;> omega
    exact Nat.xor_lt_two_pow (n := 6) h1 h2
theorem syf_xor (a b : Nat) : ∀ m, syf (a ^^^ b) m = syf a m ^^^ syf b m
  | 0 => by show (0 : Nat) = 0 ^^^ 0; decide
  | m + 1 => by
    have h := syf_xor a b m
    have g := bit_xor a b m
    simp only [syf]
    rw [h, g]
    rcases (show a / 2 ^ m % 2 = 0 ∨ a / 2 ^ m % 2 = 1 by omega) with e1 | e1 <;> rcases (show b / 2 ^ m % 2 = 0 ∨ b / 2 ^ m % 2 = 1 by omega) with e2 | e2 <;> rw [e1, e2] <;> simp
    · rw [Nat.xor_assoc]
    · rw [Nat.xor_assoc, Nat.xor_comm (syf b m) m, ← Nat.xor_assoc]
    · rw [Nat.xor_assoc (syf a m) m, ← Nat.xor_assoc m, Nat.xor_comm m (syf b m), Nat.xor_assoc (syf b m), Nat.xor_self, Nat.xor_zero]
theorem syn_l (x : Int64) : ∀ n j : Nat, j + n ≤ 64 → f_Mo_syndrome_l4 x n j (nI (syf (uN x) j)) = nI (syf (uN x) (j + n)) := by
  intro n
  induction n with
  | zero => intro j _; rfl
  | succ n ih =>
    intro j hj
    have key : f_Mo_syndrome_l4 x (n + 1) j (nI (syf (uN x) j)) = f_Mo_syndrome_l4 x n (j + 1) (nI (syf (uN x) (j + 1))) := by
      by_cases hb : uN x / 2 ^ j % 2 = 1
      · have e : syf (uN x) (j + 1) = syf (uN x) j ^^^ j := by show syf (uN x) j ^^^ (if _ then _ else _) = _; rw [if_pos hb]
        rw [e, ← nx_xor]
        exact if_pos ((lb x (by omega)).mpr hb)
      · have e : syf (uN x) (j + 1) = syf (uN x) j := by show syf (uN x) j ^^^ (if _ then _ else _) = _; rw [if_neg hb, Nat.xor_zero]
        rw [e]
        exact if_neg (fun q => hb ((lb x (by omega)).mp q))
    rw [key, ih (j + 1) (by omega), show j + 1 + n = j + (n + 1) by omega]
theorem syn_num (x : Int64) : f_Mo_syndrome x = nI (syf (uN x) 39) := by
  have h : syf (uN x) 1 = 0 := by
    show (0 : Nat) ^^^ (if uN x / 2 ^ 0 % 2 = 1 then 0 else 0) = 0
    split <;> rfl
  have := syn_l x 38 1 (by decide)
  rw [h] at this
  exact this
/-- a linear function is known by its values at single bits -/
theorem xor_top {r k : Nat} (h : r < 2 ^ k) : r ^^^ 2 ^ k = r + 2 ^ k := by
  have h1 : (r ^^^ 2 ^ k) % 2 ^ k = r := by rw [Nat.xor_mod_two_pow, Nat.mod_self, Nat.xor_zero, Nat.mod_eq_of_lt h]
  have h2 : (r ^^^ 2 ^ k) / 2 ^ k = 1 := by rw [Nat.xor_div_two_pow, Nat.div_self (Nat.two_pow_pos k), Nat.div_eq_of_lt h]; rfl
  have := Nat.div_add_mod (r ^^^ 2 ^ k) (2 ^ k)
  rw [h1, h2, Nat.mul_one] at this
  omega
theorem lin_ext {F G : Nat → Nat} (hF : ∀ a b, F (a ^^^ b) = F a ^^^ F b) (hG : ∀ a b, G (a ^^^ b) = G a ^^^ G b) : ∀ n, (∀ k, k < n → F (2 ^ k) = G (2 ^ k)) → ∀ a, a < 2 ^ n → F a = G a
  | 0, _, a, h => by
    have ha : a = 0 := by omega
    have f0 : F 0 = 0 := by have := hF 0 0; rw [Nat.xor_self, Nat.xor_self] at this; exact this
    have g0 : G 0 = 0 := by have := hG 0 0; rw [Nat.xor_self, Nat.xor_self] at this; exact this
    rw [ha, f0, g0]
  | n + 1, hb, a, h => by
    by_cases hl : a < 2 ^ n
    · exact lin_ext hF hG n (fun k hk => hb k (by omega)) a hl
    · have hp : 2 ^ (n + 1) = 2 ^ n + 2 ^ n := by rw [Nat.pow_succ]; omega
      have hr : a - 2 ^ n < 2 ^ n := by omega
      have e : a = (a - 2 ^ n) ^^^ 2 ^ n := by rw [xor_top hr]; omega
      rw [e, hF, hG, lin_ext hF hG n (fun k hk => hb k (by omega)) _ hr, hb n (by omega)]
/-- the class's number of the wrong bit -/
def pB (a m : Nat) : Nat := cnt (a &&& m) 64 % 2
def xnf (a : Nat) : Nat := pB a 183251937962 + 2 * pB a 329853488332 + 4 * pB a 485078659312 + 8 * pB a 4278255360 + 16 * pB a 4294901760 + 32 * pB a 545460846592
theorem pB_lt (a m : Nat) : pB a m < 2 := Nat.mod_lt _ (by decide)
theorem pB_xor (a b m : Nat) : pB (a ^^^ b) m = (pB a m + pB b m) % 2 := by
  unfold pB
  rw [Nat.and_xor_distrib_right, cnt_xor]
  omega
theorem six (p0 p1 p2 p3 p4 p5 : Fin 2) : (((((((0 : Int32) ||| (nI p0.val <<< ((0 : Int32) &&& 31))) ||| (nI p1.val <<< ((1 : Int32) &&& 31))) ||| (nI p2.val <<< ((2 : Int32) &&& 31))) ||| (nI p3.val <<< ((3 : Int32) &&& 31))) ||| (nI p4.val <<< ((4 : Int32) &&& 31))) ||| (nI p5.val <<< ((5 : Int32) &&& 31))) = nI (p0.val + 2 * p1.val + 4 * p2.val + 8 * p3.val + 16 * p4.val + 32 * p5.val) := by
  revert p0 p1 p2 p3 p4 p5
  decide +kernel
theorem xon_num (x : Int64) : f_Me_xorOfNumbers x = nI (xnf (uN x)) := by
  have h : ∀ k, k < 6 → f_Lg_bitCount (x &&& numL k) &&& (1 : Int32) = nI (pB (uN x) (uN (numL k))) := fun k _ => by rw [bc_par, uN_and]; rfl
  have e0 := h 0 (by decide)
  have e1 := h 1 (by decide)
  have e2 := h 2 (by decide)
  have e3 := h 3 (by decide)
  have e4 := h 4 (by decide)
  have e5 := h 5 (by decide)
  have c : ∀ k : Fin 6, (nI k.val).toNatClampNeg = k.val := by decide
  unfold f_Me_xorOfNumbers
  dsimp only
  rw [show (0 : Int32).toNatClampNeg = 0 from c 0, show (1 : Int32).toNatClampNeg = 1 from c 1, show (2 : Int32).toNatClampNeg = 2 from c 2, show (3 : Int32).toNatClampNeg = 3 from c 3, show (4 : Int32).toNatClampNeg = 4 from c 4, show (5 : Int32).toNatClampNeg = 5 from c 5, e0, e1, e2, e3, e4, e5]
  have := six ⟨_, pB_lt (uN x) (uN (numL 0))⟩ ⟨_, pB_lt (uN x) (uN (numL 1))⟩ ⟨_, pB_lt (uN x) (uN (numL 2))⟩ ⟨_, pB_lt (uN x) (uN (numL 3))⟩ ⟨_, pB_lt (uN x) (uN (numL 4))⟩ ⟨_, pB_lt (uN x) (uN (numL 5))⟩
  exact this
theorem six_xor (a0 a1 a2 a3 a4 a5 b0 b1 b2 b3 b4 b5 : Fin 2) : (a0.val + b0.val) % 2 + 2 * ((a1.val + b1.val) % 2) + 4 * ((a2.val + b2.val) % 2) + 8 * ((a3.val + b3.val) % 2) + 16 * ((a4.val + b4.val) % 2) + 32 * ((a5.val + b5.val) % 2) = (a0.val + 2 * a1.val + 4 * a2.val + 8 * a3.val + 16 * a4.val + 32 * a5.val) ^^^ (b0.val + 2 * b1.val + 4 * b2.val + 8 * b3.val + 16 * b4.val + 32 * b5.val) := by
  revert a0 a1 a2 a3 a4 a5 b0 b1 b2 b3 b4 b5
  decide +kernel
theorem xnf_xor (a b : Nat) : xnf (a ^^^ b) = xnf a ^^^ xnf b := by
  unfold xnf
  rw [pB_xor, pB_xor, pB_xor, pB_xor, pB_xor, pB_xor]
  exact six_xor ⟨_, pB_lt a _⟩ ⟨_, pB_lt a _⟩ ⟨_, pB_lt a _⟩ ⟨_, pB_lt a _⟩ ⟨_, pB_lt a _⟩ ⟨_, pB_lt a _⟩ ⟨_, pB_lt b _⟩ ⟨_, pB_lt b _⟩ ⟨_, pB_lt b _⟩ ⟨_, pB_lt b _⟩ ⟨_, pB_lt b _⟩ ⟨_, pB_lt b _⟩
theorem xnf_syf {a : Nat} (h : a < 2 ^ 39) : xnf a = syf a 39 := by
  have hb : ∀ k : Fin 39, xnf (2 ^ k.val) = syf (2 ^ k.val) 39 := by decide +kernel
  exact lin_ext (F := xnf) (G := fun a => syf a 39) xnf_xor (fun a b => syf_xor a b 39) 39 (fun k hk => hb ⟨k, hk⟩) a h
theorem syn_eq {x : Int64} (h : wLo 39 x) : f_Me_xorOfNumbers x = f_Mo_syndrome x := by
  rw [xon_num, syn_num, xnf_syf h]
