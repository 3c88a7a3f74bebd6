/-! In range: what the branches say of places -/
theorem vn_of {x : Int32} {n : Nat} (hn : n < 2 ^ 31) (h : nI n ≤ x) : ∃ j : Nat, j < 2 ^ 31 ∧ n ≤ j ∧ x = nI j := by
  have h0 : ¬ x < 0 := fun q => by
    have a : (nI n).toInt ≤ x.toInt := Int32.le_iff_toInt_le.mp h
    have b : x.toInt < (0 : Int32).toInt := Int32.lt_iff_toInt_lt.mp q
    rw [nI_toInt hn] at a
    have : (0 : Int32).toInt = 0 := rfl
    omega
  obtain ⟨j, hj, rfl⟩ := nI_of h0
  exact ⟨j, hj, (nI_leI hn hj).mp h, rfl⟩
theorem v3_0 {r : Int32} (h : vp_in r 32) : vp_in ((3 : Int32) * r) 96 := by
  obtain ⟨j, hj, rfl⟩ := vp_in_of h (by decide)
  rw [show (3 : Int32) * nI j = nI (3 * j) from pk_mul 3 j]
  exact vp_in_nI (by omega) (by decide)
theorem v3_1 {r : Int32} (h : vp_in r 32) : vp_in ((3 : Int32) * r + (1 : Int32)) 96 := by
  obtain ⟨j, hj, rfl⟩ := vp_in_of h (by decide)
  rw [show (3 : Int32) * nI j = nI (3 * j) from pk_mul 3 j, show nI (3 * j) + (1 : Int32) = nI (3 * j + 1) from nI_add (3 * j) 1]
  exact vp_in_nI (by omega) (by decide)
theorem v3_2 {r : Int32} (h : vp_in r 32) : vp_in ((3 : Int32) * r + (2 : Int32)) 96 := by
  obtain ⟨j, hj, rfl⟩ := vp_in_of h (by decide)
  rw [show (3 : Int32) * nI j = nI (3 * j) from pk_mul 3 j, show nI (3 * j) + (2 : Int32) = nI (3 * j + 2) from nI_add (3 * j) 2]
  exact vp_in_nI (by omega) (by decide)
theorem v3_z {r : Int32} (h : vp_in r 32) : vp_in ((3 : Int32) * r + (0 : Int32)) 96 := by
  obtain ⟨j, hj, rfl⟩ := vp_in_of h (by decide)
  rw [show (3 : Int32) * nI j = nI (3 * j) from pk_mul 3 j, show nI (3 * j) + (0 : Int32) = nI (3 * j + 0) from nI_add (3 * j) 0]
  exact vp_in_nI (by omega) (by decide)
theorem iv_a {x : Int32} (h : vp_in x 168) (h1 : ¬ (64 : Int32) ≤ x) : vp_in x 64 := vp_cmp rfl (fun q => h (Or.inl q)) h1
theorem iv_n {x : Int32} {a b : Nat} (ha : a < 2 ^ 31) (hb : b < 2 ^ 31) (h1 : nI a ≤ x) (h2 : ¬ nI b ≤ x) : vp_in (x - nI a) (b - a) := by
  obtain ⟨j, hj, hn, rfl⟩ := vn_of ha h1
  have h3 : j < b := Nat.not_le.mp fun q => h2 ((nI_leI hb hj).mpr q)
  rw [pk_sub hn]
  exact vp_in_nI (by omega) (by omega)
theorem iv_top {x : Int32} (h : vp_in x 168) : ¬ nI 168 ≤ x := by
  obtain ⟨j, hj, rfl⟩ := vp_in_of h (by decide)
  exact nI_ge (by omega) (by decide)
theorem iv_b {x : Int32} (h1 : (64 : Int32) ≤ x) (h2 : ¬ (160 : Int32) ≤ x) : vp_in (x - (64 : Int32)) 96 := iv_n (a := 64) (b := 160) (by decide) (by decide) h1 h2
theorem iv_c {x : Int32} (h1 : (160 : Int32) ≤ x) (h2 : ¬ (164 : Int32) ≤ x) : vp_in (x - (160 : Int32)) 4 := iv_n (a := 160) (b := 164) (by decide) (by decide) h1 h2
theorem iv_d {x : Int32} (h : vp_in x 168) (h1 : (164 : Int32) ≤ x) : vp_in (x - (164 : Int32)) 4 := iv_n (a := 164) (b := 168) (by decide) (by decide) h1 (iv_top h)
theorem iv_e {x : Int32} (h : vp_in x 168) (h1 : (160 : Int32) ≤ x) : vp_in (x - (160 : Int32)) 8 := iv_n (a := 160) (b := 168) (by decide) (by decide) h1 (iv_top h)
theorem iv_nle {x : Int32} (h1 : ¬ x ≤ (159 : Int32)) : (160 : Int32) ≤ x := by
  have h2 := Int32.not_le.mp h1
  rw [Int32.lt_iff_toInt_lt] at h2
  rw [Int32.le_iff_toInt_le]
  have a : (159 : Int32).toInt = 159 := rfl
  have b : (160 : Int32).toInt = 160 := rfl
  omega
theorem iv_le {x : Int32} (h1 : x ≤ (159 : Int32)) : ¬ (160 : Int32) ≤ x := by
  intro h2
  rw [Int32.le_iff_toInt_le] at h1 h2
  have a : (159 : Int32).toInt = 159 := rfl
  have b : (160 : Int32).toInt = 160 := rfl
  omega
theorem iv_h {x : Int32} (h : vp_in x 168) (h1 : ¬ x ≤ (159 : Int32)) : vp_in (x - (160 : Int32)) 8 := iv_e h (iv_nle h1)
theorem iv_g {x : Int32} (h1 : (64 : Int32) ≤ x) (h2 : x ≤ (159 : Int32)) : vp_in (x - (64 : Int32)) 96 := iv_b h1 (iv_le h2)
theorem iv_f {x : Int32} (h1 : (64 : Int32) ≤ x) (h2 : x ≤ (159 : Int32)) : vp_in ((x - (64 : Int32)) / (3 : Int32)) 32 := by
  obtain ⟨j, hj, e⟩ := vp_in_of (iv_g h1 h2) (by decide)
  rw [e, show (3 : Int32) = nI 3 from rfl, pk_div (by omega) (by decide) (by decide)]
  exact vp_in_nI (by omega) (by decide)
theorem cl17 {x : Int32} (h : vp_in x 17) : x.toNatClampNeg ≤ 16 := Nat.le_of_lt_succ (Nat.not_le.mp fun q => h (Or.inr q))
theorem mp_z {x : Int32} {j : Nat} (h : vp_in x 17) (e : j = x.toNatClampNeg) : x ≤ nI j := by
  obtain ⟨k, hk, rfl⟩ := vp_in_of h (by decide)
  rw [nI_clamp (by omega)] at e
  exact nI_le (by omega) (by omega)
theorem mp_s {x : Int32} {j : Nat} (h : vp_in x 17) (e : j < x.toNatClampNeg) : ¬ x ≤ nI j := by
  obtain ⟨k, hk, rfl⟩ := vp_in_of h (by decide)
  rw [nI_clamp (by omega)] at e
  exact nI_ge (by omega) (by omega)
theorem mp_le {x : Int32} {j : Nat} (h : ∃ q, x = nI q ∧ q ≤ j) (hj : j < 16) : vp_in x 16 := by
  obtain ⟨q, rfl, hq⟩ := h
  exact vp_in_nI (by omega) (by decide)
theorem p3_e (j k : Nat) : (3 : Int32) * nI j + nI k = nI (3 * j + k) := by
  rw [show (3 : Int32) * nI j = nI (3 * j) from pk_mul 3 j]
  exact nI_add _ _
theorem p3_cl {j : Nat} (hj : j < 16) : ((3 : Int32) * nI j + (1 : Int32)).toNatClampNeg = 3 * j + 1 := by
  rw [show (3 : Int32) * nI j + (1 : Int32) = nI (3 * j + 1) from p3_e j 1]
  exact nI_clamp (by omega)
theorem p3__ {j : Nat} (hj : j < 16) : vp_in ((3 : Int32) * nI j) 48 := by
  rw [show (3 : Int32) * nI j = nI (3 * j) from pk_mul 3 j]
  exact vp_in_nI (by omega) (by decide)
theorem p3_k {j : Nat} (k : Nat) (hk : k < 3) (hj : j < 16) : vp_in ((3 : Int32) * nI j + nI k) 48 := by
  rw [p3_e]
  exact vp_in_nI (by omega) (by decide)
theorem p3_0 {j : Nat} (hj : j < 16) : vp_in ((3 : Int32) * nI j + (0 : Int32)) 48 := p3_k 0 (by decide) hj
theorem p3_1 {j : Nat} (hj : j < 16) : vp_in ((3 : Int32) * nI j + (1 : Int32)) 48 := p3_k 1 (by decide) hj
theorem p3_2 {j : Nat} (hj : j < 16) : vp_in ((3 : Int32) * nI j + (2 : Int32)) 48 := p3_k 2 (by decide) hj
theorem p3_le0 {x : Int32} {j : Nat} (h : ∃ q, x = nI q ∧ q ≤ j) (hj : j < 16) : vp_in ((3 : Int32) * x + (0 : Int32)) 48 := by
  obtain ⟨q, rfl, hq⟩ := h
  exact p3_0 (by omega)
theorem p3_le1 {x : Int32} {j : Nat} (h : ∃ q, x = nI q ∧ q ≤ j) (hj : j < 16) : vp_in ((3 : Int32) * x + (1 : Int32)) 48 := by
  obtain ⟨q, rfl, hq⟩ := h
  exact p3_1 (by omega)
theorem p3_le2 {x : Int32} {j : Nat} (h : ∃ q, x = nI q ∧ q ≤ j) (hj : j < 16) : vp_in ((3 : Int32) * x + (2 : Int32)) 48 := by
  obtain ⟨q, rfl, hq⟩ := h
  exact p3_2 (by omega)
theorem p3_keep {f : Nat → Int32} {x v0 v1 v2 : Int32} {j k : Nat} (h : ∃ q, x = nI q ∧ q ≤ j) (hj : j < 16) (h1 : j + 1 ≤ k) (hk : k < 16) (hv : vp_in (f (3 * k + 1)) 168) :
    vp_in (upd (upd (upd f ((3 : Int32) * x + (0 : Int32)).toNatClampNeg v0) ((3 : Int32) * x + (1 : Int32)).toNatClampNeg v1) ((3 : Int32) * x + (2 : Int32)).toNatClampNeg v2 (3 * k + 1)) 168 := by
  obtain ⟨q, rfl, hq⟩ := h
  have e : ∀ d, d < 3 → ((3 : Int32) * nI q + nI d).toNatClampNeg = 3 * q + d := fun d hd => by rw [p3_e]; exact nI_clamp (by omega)
  rw [pk_un (by rw [show (2 : Int32) = nI 2 from rfl, e 2 (by decide)]; omega), pk_un (by rw [show (1 : Int32) = nI 1 from rfl, e 1 (by decide)]; omega), pk_un (by rw [show (0 : Int32) = nI 0 from rfl, e 0 (by decide)]; omega)]
  exact hv
theorem ne16 {x : Int32} (h : vp_in x 17) (h2 : ¬ x = (16 : Int32)) : ∃ j : Nat, j < 16 ∧ x = nI j := by
  obtain ⟨j, hj, rfl⟩ := vp_in_of h (by decide)
  refine ⟨j, ?_, rfl⟩
  have : j ≠ 16 := fun e => h2 (by rw [e]; rfl)
  omega
theorem in_fs {x : Int32} (h : vp_in x 17) (h2 : ¬ x = (16 : Int32)) : vp_in x 16 := by
  obtain ⟨j, hj, rfl⟩ := ne16 h h2
  exact vp_in_nI hj (by decide)
theorem q3_0 {x : Int32} (h : vp_in x 17) (h2 : ¬ x = (16 : Int32)) : vp_in ((3 : Int32) * x) 48 := by
  obtain ⟨j, hj, rfl⟩ := ne16 h h2
  exact p3__ hj
theorem q3_1 {x : Int32} (h : vp_in x 17) (h2 : ¬ x = (16 : Int32)) : vp_in ((3 : Int32) * x + (1 : Int32)) 48 := by
  obtain ⟨j, hj, rfl⟩ := ne16 h h2
  exact p3_1 hj
theorem q3_2 {x : Int32} (h : vp_in x 17) (h2 : ¬ x = (16 : Int32)) : vp_in ((3 : Int32) * x + (2 : Int32)) 48 := by
  obtain ⟨j, hj, rfl⟩ := ne16 h h2
  exact p3_2 hj
theorem in_word {w : Int32} (h : ¬ f_V_isWord w = 0) : vp_in w 64 := by
  unfold f_V_isWord at h
  by_cases h1 : w < 0
  · rw [if_pos h1] at h; exact absurd rfl h
  · by_cases h2 : (64 : Int32) ≤ w
    · rw [if_neg h1, if_pos h2] at h; exact absurd rfl h
    · exact vp_cmp rfl h1 h2
theorem in_reg {w : Int32} (h : ¬ f_V_isRegister w = 0) : vp_in w 32 := by
  unfold f_V_isRegister at h
  by_cases h1 : w < 0
  · rw [if_pos h1] at h; exact absurd rfl h
  · by_cases h2 : (32 : Int32) ≤ w
    · rw [if_neg h1, if_pos h2] at h; exact absurd rfl h
    · exact vp_cmp rfl h1 h2
theorem in_bit {x b : Int32} (h : ¬ f_V_isBit x b = 0) : vp_in x 168 := by
  unfold f_V_isBit at h
  by_cases h1 : x < 0
  · rw [if_pos h1] at h; exact absurd rfl h
  · by_cases h2 : (168 : Int32) ≤ x
    · rw [if_neg h1, if_pos h2] at h; exact absurd rfl h
    · exact vp_cmp rfl h1 h2
theorem in_out {v M : Int32} {n : Nat} (hM : M.toInt + 1 = (n : Int)) (h : f_Mo_outside v M = 0) : vp_in v n := by
  unfold f_Mo_outside at h
  by_cases h1 : v < 0
  · rw [if_pos h1] at h; exact absurd h (by decide)
  · by_cases h2 : v ≤ M
    · rw [vp_in_iff]
      rw [Int32.le_iff_toInt_le] at h2
      have a := Int32.not_lt.mp h1
      rw [Int32.le_iff_toInt_le] at a
      have : (0 : Int32).toInt = 0 := rfl
      omega
    · rw [if_neg h1, if_neg h2] at h; exact absurd h (by decide)
theorem in_nobit {x b : Int32} (h : f_Mo_noBit x b = 0) : vp_in x 168 := by
  unfold f_Mo_noBit at h
  by_cases h1 : f_Mo_outside x (167 : Int32) = 0
  · exact in_out (by decide) h1
  · rw [if_neg h1] at h; exact absurd h (by decide)
theorem in_d4 {x : Int32} (h : vp_in x 256) : vp_in (x / (4 : Int32)) 64 := by
  obtain ⟨j, hj, rfl⟩ := vp_in_of h (by decide)
  rw [show (4 : Int32) = nI 4 from rfl, pk_div (by omega) (by decide) (by decide)]
  exact vp_in_nI (by omega) (by decide)
theorem in_out4 {v : Int32} (h : f_Mo_outside v (255 : Int32) = 0) : vp_in (v / (4 : Int32)) 64 := in_d4 (in_out (by decide) h)
theorem in_reach {ca va a z : Int32} (h : ¬ (f_Mo_reaches ca va a z).1 = 0) : vp_in (a / (4 : Int32)) 64 := by
  unfold f_Mo_reaches at h
  by_cases h1 : u_rem a z = 0
  · rw [if_pos h1] at h
    by_cases h2 : f_Mo_outside a (255 : Int32) = 0
    · exact in_out4 h2
    · rw [if_neg h2] at h; exact absurd rfl h
  · rw [if_neg h1] at h; exact absurd rfl h
theorem in_addr {a z : Int32} (h : ¬ f_V_isAddress a z = 0) : vp_in (u_ush a (2 : Int32)) 64 := by
  unfold f_V_isAddress at h
  by_cases h1 : a < 0
  · rw [if_pos h1] at h; exact absurd rfl h
  · by_cases h2 : (255 : Int32) < a
    · rw [if_neg h1, if_pos h2] at h; exact absurd rfl h
    · obtain ⟨j, hj, rfl⟩ := nI_of h1
      have h3 : j ≤ 255 := Nat.not_lt.mp fun q => h2 (nI_lt q hj)
      rw [show u_ush (nI j) (2 : Int32) = nI (j / 2 ^ 2) from pk_ushrN (by omega) 2 2 (by decide)]
      exact vp_in_nI (by omega) (by decide)
theorem u_remN {a d : Nat} (ha : a < 2 ^ 31) (h0 : 0 < d) (hd : d < 2 ^ 31) : u_rem (nI a) (nI d) = nI (a % d) := pk_rem ha h0 hd
theorem rm_e {w : Int32} (h : vp_in w 64) : ∃ j : Nat, j < 4 ∧ u_rem w (4 : Int32) = nI j := by
  obtain ⟨j, hj, rfl⟩ := vp_in_of h (by decide)
  exact ⟨j % 4, by omega, u_remN (by omega) (by decide) (by decide)⟩
theorem rm_in {w : Int32} (h : vp_in w 64) : vp_in (u_rem w (4 : Int32)) 8 := by
  obtain ⟨j, hj, e⟩ := rm_e h
  rw [e]
  exact vp_in_nI (by omega) (by decide)
theorem rm4_in {w : Int32} (h : vp_in w 64) : vp_in ((4 : Int32) + u_rem w (4 : Int32)) 8 := by
  obtain ⟨j, hj, e⟩ := rm_e h
  rw [e, show (4 : Int32) + nI j = nI (4 + j) from nI_add 4 j]
  exact vp_in_nI (by omega) (by decide)
theorem at_in {c w : Int32} (hc : vp_in c 2) (h : vp_in w 64) : vp_in ((4 : Int32) * c + u_rem w (4 : Int32)) 8 := by
  obtain ⟨k, hk, rfl⟩ := vp_in_of hc (by decide)
  obtain ⟨j, hj, e⟩ := rm_e h
  rw [e, show (4 : Int32) * nI k = nI (4 * k) from pk_mul 4 k, nI_add]
  exact vp_in_nI (by omega) (by decide)
theorem cn_in {c : Int32} (hc : vp_in c 2) : vp_in ((3 : Int32) + c) 6 := by
  obtain ⟨k, hk, rfl⟩ := vp_in_of hc (by decide)
  rw [show (3 : Int32) + nI k = nI (3 + k) from nI_add 3 k]
  exact vp_in_nI (by omega) (by decide)
theorem in_s (k : Int32) : vp_in (f_Co_s k) 32 := pk_andIn _ 5 rfl (by decide)
theorem in_t (k : Int32) : vp_in (f_Co_t k) 32 := pk_andIn _ 5 rfl (by decide)
theorem in_d (k : Int32) : vp_in (f_Co_d k) 32 := pk_andIn _ 5 rfl (by decide)
theorem in_fld (x k : Int32) : vp_in (f_Mo_field x k (5 : Int32)) 32 := pk_andIn _ 5 (by decide) (by decide)
theorem shl1_ne (f : Int32) : ¬ (1 : Int32) <<< (f &&& 31) = 0 := by
  obtain ⟨j, hj, e⟩ := pk_andE f (m := 31) 5 rfl
  rw [e]
  have : ∀ j : Fin 32, ¬ (1 : Int32) <<< nI j.val = 0 := by decide +kernel
  exact this ⟨j, hj⟩
