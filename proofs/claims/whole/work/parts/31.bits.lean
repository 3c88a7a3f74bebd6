/-! Longs as numbers -/
theorem uN_lt (x : Int64) : uN x < 18446744073709551616 := x.toUInt64.toNat_lt
theorem uN_inj {x y : Int64} (h : uN x = uN y) : x = y := congrArg UInt64.toInt64 (UInt64.toNat_inj.mp h)
theorem uN_add (x y : Int64) : uN (x + y) = (uN x + uN y) % 18446744073709551616 := by
  show (x.toUInt64 + y.toUInt64).toNat = _
  exact UInt64.toNat_add _ _
theorem uN_sub (x y : Int64) (h : uN y ≤ uN x) : uN (x - y) = uN x - uN y := by
  show (x.toUInt64 - y.toUInt64).toNat = _
  rw [UInt64.toNat_sub_of_le]
  · rfl
  · exact UInt64.le_iff_toNat_le.mpr h
theorem uN_and (x y : Int64) : uN (x &&& y) = uN x &&& uN y := UInt64.toNat_and _ _
theorem uN_or' (x y : Int64) : uN (x ||| y) = uN x ||| uN y := UInt64.toNat_or _ _
theorem uN_xor' (x y : Int64) : uN (x ^^^ y) = uN x ^^^ uN y := UInt64.toNat_xor _ _
theorem uN_lN {n : Nat} (h : n < 18446744073709551616) : uN (lN n) = n := by
  show (BitVec.ofNat 64 n).toNat = n
  rw [BitVec.toNat_ofNat, Nat.mod_eq_of_lt h]
theorem uN_lush (x : Int64) {k : Nat} (hk : k < 64) : uN (u_lush x (nI k)) = uN x / 2 ^ k := by
  have h : ∀ k : Fin 64, ((nI k.val).toInt64.toUInt64 &&& Int64.toUInt64 63).toNat % 64 = k.val := by decide +kernel
  show (x.toUInt64 >>> ((nI k).toInt64.toUInt64 &&& Int64.toUInt64 63)).toNat = _
  rw [UInt64.toNat_shiftRight, Nat.shiftRight_eq_div_pow, h ⟨k, hk⟩]
  rfl
theorem uN_lshl (x : Int64) {k : Nat} (hk : k < 64) : uN (u_lshl x (nI k)) = uN x * 2 ^ k % 18446744073709551616 := by
  have h : ∀ k : Fin 64, (((nI k.val).toInt64 &&& 63).toBitVec.smod 64).toNat = k.val := by decide +kernel
  show (x.toBitVec <<< (((nI k).toInt64 &&& 63).toBitVec.smod 64).toNat).toNat = _
  rw [h ⟨k, hk⟩, BitVec.toNat_shiftLeft, Nat.shiftLeft_eq]
  rfl
theorem l2i_num (x : Int64) : x.toInt32.toBitVec.toNat = uN x % 2 ^ 32 := by
  rw [Int64.toBitVec_toInt32, BitVec.signExtend_eq_setWidth_of_le _ (by decide), BitVec.toNat_setWidth]
  rfl
/-! the count of ones, as the library counts it -/
def cnt (n : Nat) : Nat → Nat
  | 0 => 0
  | m + 1 => cnt n m + n / 2 ^ m % 2
theorem bc_a {a b c d : Nat} (ha : a < 256) (hc : c < 256) : (a + 256 * b) &&& (c + 256 * d) = (a &&& c) + 256 * (b &&& d) := by
  have h1 : ((a + 256 * b) &&& (c + 256 * d)) % 2 ^ 8 = a &&& c := by
    rw [Nat.and_mod_two_pow, show (a + 256 * b) % 2 ^ 8 = a by omega, show (c + 256 * d) % 2 ^ 8 = c by omega]
  have h2 : ((a + 256 * b) &&& (c + 256 * d)) / 2 ^ 8 = b &&& d := by
    rw [Nat.and_div_two_pow, show (a + 256 * b) / 2 ^ 8 = b by omega, show (c + 256 * d) / 2 ^ 8 = d by omega]
  omega
def bc_r (m : Nat) : Nat → Nat
  | 0 => 0
  | k + 1 => m + 256 * bc_r m k
def bc_1 (k n : Nat) : Nat := n - (n / 2 &&& bc_r 85 k)
def bc_2 (k n : Nat) : Nat := (n &&& bc_r 51 k) + (n / 4 &&& bc_r 51 k)
def bc_3 (k n : Nat) : Nat := (n + n / 16) &&& bc_r 15 k
def bc_b2 (b : Nat) : Nat := ((b - (b / 2 &&& 85)) &&& 51) + ((b - (b / 2 &&& 85)) / 4 &&& 51)
def bc_b (b : Nat) : Nat := (bc_b2 b + bc_b2 b / 16) &&& 15
def bc_s : Nat → Nat → Nat
  | 0, _ => 0
  | k + 1, n => bc_b (n % 256) + 256 * bc_s k (n / 256)
theorem bc_f1 : ∀ x : Fin 128, ∀ y : Fin 2, (x.val + 128 * y.val) &&& 85 = x.val &&& 85 := by decide +kernel
theorem bc_f2 : ∀ x : Fin 64, ∀ y : Fin 4, (x.val + 64 * y.val) &&& 51 = x.val &&& 51 := by decide +kernel
theorem bc_f3 : ∀ b : Fin 256, bc_b2 b.val ≤ 68 ∧ bc_b2 b.val % 16 ≤ 4 ∧ bc_b b.val ≤ 8 := by decide +kernel
theorem bc_f4 : ∀ b : Fin 256, bc_b b.val % 2 = (b.val % 2 + b.val / 2 % 2 + b.val / 4 % 2 + b.val / 8 % 2 + b.val / 16 % 2 + b.val / 32 % 2 + b.val / 64 % 2 + b.val / 128 % 2) % 2 := by decide +kernel
theorem bc_s1 (k : Nat) {b r : Nat} (hb : b < 256) : bc_1 (k + 1) (b + 256 * r) = (b - (b / 2 &&& 85)) + 256 * bc_1 k r := by
  unfold bc_1
  have e : (b + 256 * r) / 2 = (b / 2 + 128 * (r % 2)) + 256 * (r / 2) := by omega
  have f := bc_f1 ⟨b / 2, by omega⟩ ⟨r % 2, by omega⟩
  rw [e, show bc_r 85 (k + 1) = 85 + 256 * bc_r 85 k from rfl, bc_a (by omega) (by decide), f]
  have g1 : b / 2 &&& 85 ≤ b / 2 := Nat.and_le_left
  have g2 : r / 2 &&& bc_r 85 k ≤ r / 2 := Nat.and_le_left
  show b + 256 * r - ((b / 2 &&& 85) + 256 * (r / 2 &&& bc_r 85 k)) = _
  omega
theorem bc_s2 (k : Nat) {c d : Nat} (hc : c < 256) : bc_2 (k + 1) (c + 256 * d) = ((c &&& 51) + (c / 4 &&& 51)) + 256 * bc_2 k d := by
  unfold bc_2
  have e : (c + 256 * d) / 4 = (c / 4 + 64 * (d % 4)) + 256 * (d / 4) := by omega
  have f := bc_f2 ⟨c / 4, by omega⟩ ⟨d % 4, by omega⟩
  rw [e, show bc_r 51 (k + 1) = 51 + 256 * bc_r 51 k from rfl, bc_a hc (by decide), bc_a (by omega) (by decide), f]
  show (c &&& 51) + 256 * (d &&& bc_r 51 k) + ((c / 4 &&& 51) + 256 * (d / 4 &&& bc_r 51 k)) = _
  omega
theorem bc_s12 (k : Nat) {b r : Nat} (hb : b < 256) : bc_2 (k + 1) (bc_1 (k + 1) (b + 256 * r)) = bc_b2 b + 256 * bc_2 k (bc_1 k r) := by
  rw [bc_s1 k hb, bc_s2 k (by omega)]
  rfl
theorem bc_low : ∀ (k r : Nat), bc_2 k (bc_1 k r) % 16 ≤ 4
  | 0, r => by
    have : bc_2 0 (bc_1 0 r) = 0 := by unfold bc_2; rw [show bc_r 51 0 = 0 from rfl, Nat.and_zero, Nat.and_zero]
    omega
  | k + 1, r => by
    have h := bc_s12 k (b := r % 256) (r := r / 256) (by omega)
    rw [show r % 256 + 256 * (r / 256) = r by omega] at h
    have f := (bc_f3 ⟨r % 256, by omega⟩).2.1
    rw [h]
    have f : bc_b2 (r % 256) % 16 ≤ 4 := f
    omega
theorem bc_s3 (k : Nat) {c d : Nat} (hc : c ≤ 68) (hd : d % 16 ≤ 4) : bc_3 (k + 1) (c + 256 * d) = ((c + c / 16) &&& 15) + 256 * bc_3 k d := by
  unfold bc_3
  have e : c + 256 * d + (c + 256 * d) / 16 = (c + c / 16 + 16 * (d % 16)) + 256 * (d + d / 16) := by omega
  rw [e, show bc_r 15 (k + 1) = 15 + 256 * bc_r 15 k from rfl, bc_a (by omega) (by decide)]
  have g1 : (c + c / 16 + 16 * (d % 16)) &&& 15 = (c + c / 16 + 16 * (d % 16)) % 2 ^ 4 := Nat.and_two_pow_sub_one_eq_mod _ 4
  have g2 : (c + c / 16) &&& 15 = (c + c / 16) % 2 ^ 4 := Nat.and_two_pow_sub_one_eq_mod _ 4
  rw [g1, g2]
  omega
theorem bc_main : ∀ (k n : Nat), bc_3 k (bc_2 k (bc_1 k n)) = bc_s k n
  | 0, n => by unfold bc_3; rw [show bc_r 15 0 = 0 from rfl, Nat.and_zero]; rfl
  | k + 1, n => by
    have h := bc_s12 k (b := n % 256) (r := n / 256) (by omega)
    rw [show n % 256 + 256 * (n / 256) = n by omega] at h
    have f := bc_f3 ⟨n % 256, by omega⟩
    rw [h, bc_s3 k f.1 (bc_low k _), bc_main k (n / 256)]
    rfl
theorem bc_le (k n : Nat) : bc_b (n % 256) ≤ 8 := (bc_f3 ⟨n % 256, by omega⟩).2.2
def bc_p (n j : Nat) : Nat := bc_b (n / 256 ^ j % 256)
theorem bc_8 (n : Nat) : bc_s 8 n = bc_p n 0 + 256 * (bc_p n 1 + 256 * (bc_p n 2 + 256 * (bc_p n 3 + 256 * (bc_p n 4 + 256 * (bc_p n 5 + 256 * (bc_p n 6 + 256 * (bc_p n 7 + 256 * 0))))))) := by
  simp only [bc_s, bc_p]
  rw [show n / 256 / 256 / 256 / 256 / 256 / 256 / 256 = n / 256 ^ 7 by omega, show n / 256 / 256 / 256 / 256 / 256 / 256 = n / 256 ^ 6 by omega, show n / 256 / 256 / 256 / 256 / 256 = n / 256 ^ 5 by omega, show n / 256 / 256 / 256 / 256 = n / 256 ^ 4 by omega, show n / 256 / 256 / 256 = n / 256 ^ 3 by omega, show n / 256 / 256 = n / 256 ^ 2 by omega, show n / 256 ^ 1 = n / 256 by rw [Nat.pow_one], show n / 256 ^ 0 = n by rw [Nat.pow_zero, Nat.div_one]]
theorem bc_ple (n j : Nat) : bc_p n j ≤ 8 := bc_le 0 _
theorem bc_d1 {p Y : Nat} (h : p < 256) : (p + 256 * Y) / 256 = Y := by omega
theorem bc_d2 {p q Y : Nat} (h : p < 256) (h1 : q < 256) : (p + 256 * (q + 256 * Y)) / 65536 = Y := by omega
theorem bc_d4 {p q r s Y : Nat} (h : p < 256) (h1 : q < 256) (h2 : r < 256) (h3 : s < 256) : (p + 256 * (q + 256 * (r + 256 * (s + 256 * Y)))) / 4294967296 = Y := by omega
theorem bc_d7 {p Y : Nat} (h : p < 128) : (p + 256 * Y) % 128 = p := by omega
theorem bc_l1 (p0 p1 p2 p3 p4 p5 p6 p7 : Nat) : p0 + 256 * (p1 + 256 * (p2 + 256 * (p3 + 256 * (p4 + 256 * (p5 + 256 * (p6 + 256 * (p7 + 256 * 0))))))) + (p1 + 256 * (p2 + 256 * (p3 + 256 * (p4 + 256 * (p5 + 256 * (p6 + 256 * (p7 + 256 * 0))))))) = (p0 + p1) + 256 * ((p1 + p2) + 256 * ((p2 + p3) + 256 * ((p3 + p4) + 256 * ((p4 + p5) + 256 * ((p5 + p6) + 256 * ((p6 + p7) + 256 * p7)))))) := by omega
theorem bc_l2 (a b c d e f g h : Nat) : a + 256 * (b + 256 * (c + 256 * (d + 256 * (e + 256 * (f + 256 * (g + 256 * h)))))) + (c + 256 * (d + 256 * (e + 256 * (f + 256 * (g + 256 * h))))) = (a + c) + 256 * ((b + d) + 256 * ((c + e) + 256 * ((d + f) + 256 * ((e + g) + 256 * ((f + h) + 256 * (g + 256 * h)))))) := by omega
theorem bc_l4 (a b c d e f g h : Nat) : a + 256 * (b + 256 * (c + 256 * (d + 256 * (e + 256 * (f + 256 * (g + 256 * h)))))) + (e + 256 * (f + 256 * (g + 256 * h))) = (a + e) + 256 * ((b + f) + 256 * ((c + g) + 256 * ((d + h) + 256 * (e + 256 * (f + 256 * (g + 256 * h)))))) := by omega
theorem bc_lt {a b c d e f g h : Nat} (ha : a < 128) (hb : b < 128) (hc : c < 128) (hd : d < 128) (he : e < 128) (hf : f < 128) (hg : g < 128) (hh : h < 128) : a + 256 * (b + 256 * (c + 256 * (d + 256 * (e + 256 * (f + 256 * (g + 256 * h)))))) < 18446744073709551616 := by omega
theorem bc_end {p0 p1 p2 p3 p4 p5 p6 p7 a b c d : Nat} (h0 : p0 ≤ 8) (h1 : p1 ≤ 8) (h2 : p2 ≤ 8) (h3 : p3 ≤ 8) (h4 : p4 ≤ 8) (h5 : p5 ≤ 8) (h6 : p6 ≤ 8) (h7 : p7 ≤ 8) (ha : a = p0 + 256 * (p1 + 256 * (p2 + 256 * (p3 + 256 * (p4 + 256 * (p5 + 256 * (p6 + 256 * (p7 + 256 * 0)))))))) (hb : b = a + a / 256) (hc : c = b + b / 65536) (hd : d = c + c / 4294967296) :
    b < 18446744073709551616 ∧ c < 18446744073709551616 ∧ d < 18446744073709551616 ∧ d % 128 = p0 + p1 + p2 + p3 + p4 + p5 + p6 + p7 := by
  have b1 : b = (p0 + p1) + 256 * ((p1 + p2) + 256 * ((p2 + p3) + 256 * ((p3 + p4) + 256 * ((p4 + p5) + 256 * ((p5 + p6) + 256 * ((p6 + p7) + 256 * p7)))))) := by
    rw [hb, ha, bc_d1 (Nat.lt_of_le_of_lt h0 (by decide)), bc_l1]
  have k1 : b < 18446744073709551616 := by
    rw [b1]
    exact bc_lt (by clear ha hb hc hd b1; omega) (by clear ha hb hc hd b1; omega) (by clear ha hb hc hd b1; omega) (by clear ha hb hc hd b1; omega) (by clear ha hb hc hd b1; omega) (by clear ha hb hc hd b1; omega) (by clear ha hb hc hd b1; omega) (by clear ha hb hc hd b1; omega)
  have c1 : c = (p0 + p1 + (p2 + p3)) + 256 * ((p1 + p2 + (p3 + p4)) + 256 * ((p2 + p3 + (p4 + p5)) + 256 * ((p3 + p4 + (p5 + p6)) + 256 * ((p4 + p5 + (p6 + p7)) + 256 * ((p5 + p6 + p7) + 256 * ((p6 + p7) + 256 * p7)))))) := by
    rw [hc, b1, bc_d2 (by clear ha hb hc hd b1; omega) (by clear ha hb hc hd b1; omega), bc_l2]
  have k2 : c < 18446744073709551616 := by
    rw [c1]
    exact bc_lt (by clear ha hb hc hd b1 c1; omega) (by clear ha hb hc hd b1 c1; omega) (by clear ha hb hc hd b1 c1; omega) (by clear ha hb hc hd b1 c1; omega) (by clear ha hb hc hd b1 c1; omega) (by clear ha hb hc hd b1 c1; omega) (by clear ha hb hc hd b1 c1; omega) (by clear ha hb hc hd b1 c1; omega)
  have d1 : d = (p0 + p1 + (p2 + p3) + (p4 + p5 + (p6 + p7))) + 256 * ((p1 + p2 + (p3 + p4) + (p5 + p6 + p7)) + 256 * ((p2 + p3 + (p4 + p5) + (p6 + p7)) + 256 * ((p3 + p4 + (p5 + p6) + p7) + 256 * ((p4 + p5 + (p6 + p7)) + 256 * ((p5 + p6 + p7) + 256 * ((p6 + p7) + 256 * p7)))))) := by
    rw [hd, c1, bc_d4 (by clear ha hb hc hd b1 c1; omega) (by clear ha hb hc hd b1 c1; omega) (by clear ha hb hc hd b1 c1; omega) (by clear ha hb hc hd b1 c1; omega), bc_l4]
  refine ⟨k1, k2, ?_, ?_⟩
  · rw [d1]
    exact bc_lt (by clear ha hb hc hd b1 c1 d1; omega) (by clear ha hb hc hd b1 c1 d1; omega) (by clear ha hb hc hd b1 c1 d1; omega) (by clear ha hb hc hd b1 c1 d1; omega) (by clear ha hb hc hd b1 c1 d1; omega) (by clear ha hb hc hd b1 c1 d1; omega) (by clear ha hb hc hd b1 c1 d1; omega) (by clear ha hb hc hd b1 c1 d1; omega)
  · rw [d1, bc_d7 (by clear ha hb hc hd b1 c1 d1; omega)]
    clear ha hb hc hd b1 c1 d1
    omega
theorem bc_num (x : Int64) : f_Lg_bitCount x = nI (bc_p (uN x) 0 + bc_p (uN x) 1 + bc_p (uN x) 2 + bc_p (uN x) 3 + bc_p (uN x) 4 + bc_p (uN x) 5 + bc_p (uN x) 6 + bc_p (uN x) 7) := by
  have hx := uN_lt x
  have m5 : uN (6148914691236517205 : Int64) = bc_r 85 8 := by decide +kernel
  have m3 : uN (3689348814741910323 : Int64) = bc_r 51 8 := by decide +kernel
  have mf : uN (1085102592571150095 : Int64) = bc_r 15 8 := by decide +kernel
  have e1 : uN (x - ((u_lush x (1 : Int32)) &&& (6148914691236517205 : Int64))) = bc_1 8 (uN x) := by
    have a1 : uN ((u_lush x (1 : Int32)) &&& (6148914691236517205 : Int64)) = uN x / 2 &&& bc_r 85 8 := by
      rw [uN_and, show uN (u_lush x (1 : Int32)) = uN x / 2 ^ 1 from uN_lush x (k := 1) (by decide), m5]
    rw [uN_sub _ _ (by rw [a1]; exact Nat.le_trans Nat.and_le_left (Nat.div_le_self _ _)), a1]
    rfl
  unfold f_Lg_bitCount
  generalize (x - ((u_lush x (1 : Int32)) &&& (6148914691236517205 : Int64))) = y at e1 ⊢
  have hle : bc_r 51 8 < 2 ^ 62 := by decide
  have e2 : uN ((y &&& (3689348814741910323 : Int64)) + ((u_lush y (2 : Int32)) &&& (3689348814741910323 : Int64))) = bc_2 8 (bc_1 8 (uN x)) := by
    rw [uN_add, uN_and, uN_and, show uN (u_lush y (2 : Int32)) = uN y / 2 ^ 2 from uN_lush y (k := 2) (by decide), m3, e1]
    have g1 : bc_1 8 (uN x) &&& bc_r 51 8 ≤ bc_r 51 8 := Nat.and_le_right
    have g2 : bc_1 8 (uN x) / 2 ^ 2 &&& bc_r 51 8 ≤ bc_r 51 8 := Nat.and_le_right
    rw [Nat.mod_eq_of_lt (by omega)]
    rfl
  generalize ((y &&& (3689348814741910323 : Int64)) + ((u_lush y (2 : Int32)) &&& (3689348814741910323 : Int64))) = z at e2 ⊢
  have hz : uN z < 2 ^ 63 := by
    rw [e2]
    have g1 : bc_1 8 (uN x) &&& bc_r 51 8 ≤ bc_r 51 8 := Nat.and_le_right
    have g2 : bc_1 8 (uN x) / 4 &&& bc_r 51 8 ≤ bc_r 51 8 := Nat.and_le_right
    unfold bc_2
    omega
  have e3 : uN ((z + (u_lush z (4 : Int32))) &&& (1085102592571150095 : Int64)) = bc_s 8 (uN x) := by
    rw [uN_and, uN_add, show uN (u_lush z (4 : Int32)) = uN z / 2 ^ 4 from uN_lush z (k := 4) (by decide), mf, Nat.mod_eq_of_lt (by omega), ← bc_main 8 (uN x), ← e2]
    rfl
  dsimp only
  generalize ((z + (u_lush z (4 : Int32))) &&& (1085102592571150095 : Int64)) = a at e3 ⊢
  have he := bc_end (bc_ple (uN x) 0) (bc_ple (uN x) 1) (bc_ple (uN x) 2) (bc_ple (uN x) 3) (bc_ple (uN x) 4) (bc_ple (uN x) 5) (bc_ple (uN x) 6) (bc_ple (uN x) 7) (e3.trans (bc_8 (uN x))) rfl rfl rfl
  obtain ⟨he1, he2, he3, he4⟩ := he
  have e4 : uN (a + (u_lush a (8 : Int32))) = uN a + uN a / 256 := by
    rw [uN_add, show uN (u_lush a (8 : Int32)) = uN a / 2 ^ 8 from uN_lush a (k := 8) (by decide)]
    exact Nat.mod_eq_of_lt he1
  generalize (a + (u_lush a (8 : Int32))) = b at e4 ⊢
  rw [← e4] at he2 he3 he4
  have e5 : uN (b + (u_lush b (16 : Int32))) = uN b + uN b / 65536 := by
    rw [uN_add, show uN (u_lush b (16 : Int32)) = uN b / 2 ^ 16 from uN_lush b (k := 16) (by decide)]
    exact Nat.mod_eq_of_lt he2
  generalize (b + (u_lush b (16 : Int32))) = c at e5 ⊢
  rw [← e5] at he3 he4
  have e6 : uN (c + (u_lush c (32 : Int32))) = uN c + uN c / 4294967296 := by
    rw [uN_add, show uN (u_lush c (32 : Int32)) = uN c / 2 ^ 32 from uN_lush c (k := 32) (by decide)]
    exact Nat.mod_eq_of_lt he3
  generalize (c + (u_lush c (32 : Int32))) = d at e6 ⊢
  rw [← e6] at he4
  rw [← he4]
  have h7 := pk_and d.toInt32 (m := (127 : Int32)) 7 rfl
  rw [h7]
  congr 1
  rw [l2i_num]
  omega
def c8 (n m : Nat) : Nat := n / 2 ^ m % 2 + n / 2 ^ (m + 1) % 2 + n / 2 ^ (m + 2) % 2 + n / 2 ^ (m + 3) % 2 + n / 2 ^ (m + 4) % 2 + n / 2 ^ (m + 5) % 2 + n / 2 ^ (m + 6) % 2 + n / 2 ^ (m + 7) % 2
theorem cnt8 (n m : Nat) : cnt n (m + 8) = cnt n m + c8 n m := by
  show cnt n m + n / 2 ^ m % 2 + n / 2 ^ (m + 1) % 2 + n / 2 ^ (m + 2) % 2 + n / 2 ^ (m + 3) % 2 + n / 2 ^ (m + 4) % 2 + n / 2 ^ (m + 5) % 2 + n / 2 ^ (m + 6) % 2 + n / 2 ^ (m + 7) % 2 = _
  unfold c8
  simp only [Nat.add_assoc]
theorem bc_f5 {b : Nat} (hb : b < 256) : bc_b b % 2 = (b % 2 + b / 2 % 2 + b / 4 % 2 + b / 8 % 2 + b / 16 % 2 + b / 32 % 2 + b / 64 % 2 + b / 128 % 2) % 2 := bc_f4 ⟨b, hb⟩
theorem bc_m0 (m : Nat) : m % 256 % 2 = m % 2 := by omega
theorem bc_m1 (m : Nat) : m % 256 / 2 % 2 = m / 2 % 2 := by omega
theorem bc_m2 (m : Nat) : m % 256 / 4 % 2 = m / 4 % 2 := by omega
theorem bc_m3 (m : Nat) : m % 256 / 8 % 2 = m / 8 % 2 := by omega
theorem bc_m4 (m : Nat) : m % 256 / 16 % 2 = m / 16 % 2 := by omega
theorem bc_m5 (m : Nat) : m % 256 / 32 % 2 = m / 32 % 2 := by omega
theorem bc_m6 (m : Nat) : m % 256 / 64 % 2 = m / 64 % 2 := by omega
theorem bc_m7 (m : Nat) : m % 256 / 128 % 2 = m / 128 % 2 := by omega
theorem bc_f6 (m : Nat) : bc_b (m % 256) % 2 = (m % 2 + m / 2 % 2 + m / 4 % 2 + m / 8 % 2 + m / 16 % 2 + m / 32 % 2 + m / 64 % 2 + m / 128 % 2) % 2 := by
  have f := bc_f5 (b := m % 256) (Nat.mod_lt _ (by decide))
  rw [bc_m0, bc_m1, bc_m2, bc_m3, bc_m4, bc_m5, bc_m6, bc_m7] at f
  exact f
theorem bc_pp (n j : Nat) : bc_p n j % 2 = c8 n (8 * j) % 2 := by
  have e : n / 256 ^ j = n / 2 ^ (8 * j) := by rw [Nat.pow_mul]
  have g : ∀ i, n / 2 ^ (8 * j + i) = n / 2 ^ (8 * j) / 2 ^ i := fun i => by rw [Nat.div_div_eq_div_mul, ← Nat.pow_add]
  have h : bc_p n j % 2 = bc_b (n / 2 ^ (8 * j) % 256) % 2 := by unfold bc_p; rw [e]
  rw [h, bc_f6]
  unfold c8
  rw [g 1, g 2, g 3, g 4, g 5, g 6, g 7]
/-- the parity of the library's count -/
theorem bc_par (x : Int64) : f_Lg_bitCount x &&& (1 : Int32) = nI (cnt (uN x) 64 % 2) := by
  have hl := fun j => bc_ple (uN x) j
  rw [bc_num, pk_andN (by have := hl 0; have := hl 1; have := hl 2; have := hl 3; have := hl 4; have := hl 5; have := hl 6; have := hl 7; omega) 1 rfl]
  congr 1
  generalize uN x = n
  have q0 := bc_pp n 0
  have q1 := bc_pp n 1
  have q2 := bc_pp n 2
  have q3 := bc_pp n 3
  have q4 := bc_pp n 4
  have q5 := bc_pp n 5
  have q6 := bc_pp n 6
  have q7 := bc_pp n 7
  have h0 : cnt n 8 = 0 + c8 n (8 * 0) := cnt8 n 0
  have h1 : cnt n 16 = cnt n 8 + c8 n (8 * 1) := cnt8 n 8
  have h2 : cnt n 24 = cnt n 16 + c8 n (8 * 2) := cnt8 n 16
  have h3 : cnt n 32 = cnt n 24 + c8 n (8 * 3) := cnt8 n 24
  have h4 : cnt n 40 = cnt n 32 + c8 n (8 * 4) := cnt8 n 32
  have h5 : cnt n 48 = cnt n 40 + c8 n (8 * 5) := cnt8 n 40
  have h6 : cnt n 56 = cnt n 48 + c8 n (8 * 6) := cnt8 n 48
  have h7 : cnt n 64 = cnt n 56 + c8 n (8 * 7) := cnt8 n 56
  generalize c8 n (8 * 0) = a0 at q0 h0
  generalize c8 n (8 * 1) = a1 at q1 h1
  generalize c8 n (8 * 2) = a2 at q2 h2
  generalize c8 n (8 * 3) = a3 at q3 h3
  generalize c8 n (8 * 4) = a4 at q4 h4
  generalize c8 n (8 * 5) = a5 at q5 h5
  generalize c8 n (8 * 6) = a6 at q6 h6
  generalize c8 n (8 * 7) = a7 at q7 h7
  show (bc_p n 0 + bc_p n 1 + bc_p n 2 + bc_p n 3 + bc_p n 4 + bc_p n 5 + bc_p n 6 + bc_p n 7) % 2 = cnt n 64 % 2
  omega
