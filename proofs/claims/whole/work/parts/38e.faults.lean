def Row (FC FP FB pn : Nat → Int32) (k : Nat) : Prop := FC k = pn (3 * k) ∧ FP k = pn (3 * k + 1) ∧ FB k = pn (3 * k + 2) ∧ ¬ f_V_isBit (FP k) (FB k) = 0
theorem faults_l (cy : Int32) : ∀ (n j l : Nat) (K L1 L2 wg li : Nat → Int64) (R FC FP FB wr ke ma pn : Nat → Int32), j + n ≤ 16 → l ≤ j → RM K wr wg → RC L1 L2 li → RR R ke ma →
    (∀ k : Nat, k < l → Row FC FP FB pn k) → (∀ k : Nat, j ≤ k → k < j + n → Row FC FP FB pn k) →
    RM (f_V_makePlannedFaults_l4 cy n j (nI l) K L1 L2 R FC FP FB).1 wr (f_Mo_makeFaults_l4 cy n j (nI l) wg ma li pn).1 ∧
    RC (f_V_makePlannedFaults_l4 cy n j (nI l) K L1 L2 R FC FP FB).2.1 (f_V_makePlannedFaults_l4 cy n j (nI l) K L1 L2 R FC FP FB).2.2.1 (f_Mo_makeFaults_l4 cy n j (nI l) wg ma li pn).2.2.1 ∧
    RR (f_V_makePlannedFaults_l4 cy n j (nI l) K L1 L2 R FC FP FB).2.2.2.1 ke (f_Mo_makeFaults_l4 cy n j (nI l) wg ma li pn).2.1 ∧
    RF (f_V_makePlannedFaults_l4 cy n j (nI l) K L1 L2 R FC FP FB).2.2.2.2.1 (f_V_makePlannedFaults_l4 cy n j (nI l) K L1 L2 R FC FP FB).2.2.2.2.2.1 (f_V_makePlannedFaults_l4 cy n j (nI l) K L1 L2 R FC FP FB).2.2.2.2.2.2.1 (f_V_makePlannedFaults_l4 cy n j (nI l) K L1 L2 R FC FP FB).2.2.2.2.2.2.2 (f_Mo_makeFaults_l4 cy n j (nI l) wg ma li pn).2.2.2.1 (f_Mo_makeFaults_l4 cy n j (nI l) wg ma li pn).2.2.2.2 := by
  intro n
  induction n with
  | zero =>
    intro j l K L1 L2 wg li R FC FP FB wr ke ma pn hn hl hM hC hR hA hB
    unfold f_V_makePlannedFaults_l4 f_Mo_makeFaults_l4
    refine ⟨hM, hC, hR, rfl, vp_in_nI (by omega) (by decide), fun k hk => ?_⟩
    have hk : k < (nI l).toNatClampNeg := hk
    rw [nI_clamp (by omega)] at hk
    exact hA k hk
  | succ n ih =>
    intro j l K L1 L2 wg li R FC FP FB wr ke ma pn hn hl hM hC hR hA hB
    have hj : j < 32 := by omega
    have hl2 : l < 32 := by omega
    obtain ⟨w1, w2, w3, w4⟩ := hB j (by omega) (by omega)
    unfold f_V_makePlannedFaults_l4 f_Mo_makeFaults_l4
    dsimp only
    rw [c3_0 hj, c3_1 hj, c3_2 hj, c3_z hj, c3_z hl2, c3_1 hl2, c3_2 hl2, nI_clamp (n := j) (by omega), show 3 * j + 0 = 3 * j from rfl, show 3 * l + 0 = 3 * l from rfl, ← w1, ← w2, ← w3]
    by_cases e : FC j = cy
    · rw [if_pos e, if_pos e]
      obtain ⟨g1, g2, g3⟩ := inv_eq hM hC hR w4
      exact ih (j + 1) l _ _ _ _ _ _ FC FP FB wr ke _ pn (by omega) (by omega) g1 g2 g3 hA (fun k h1 h2 => hB k (by omega) (by omega))
    · rw [if_neg e, if_neg e, show nI l + (1 : Int32) = nI (l + 1) from nI_1 l]
      unfold f_Fa_move
      dsimp only
      rw [nI_clamp (n := j) (by omega), nI_clamp (n := l) (by omega)]
      have s1 : upd pn (3 * l) (FC j) (3 * j + 1) = FP j := by rw [pk_un (by omega), w2]
      have s2 : upd (upd pn (3 * l) (FC j)) (3 * l + 1) (FP j) (3 * j + 2) = FB j := by rw [pk_un (by omega), pk_un (by omega), w3]
      rw [s1, s2]
      have old : ∀ k : Nat, k ≠ l → Row FC FP FB pn k → Row (upd FC l (FC j)) (upd FP l (FP j)) (upd FB l (FB j)) (upd (upd (upd pn (3 * l) (FC j)) (3 * l + 1) (FP j)) (3 * l + 2) (FB j)) k := by
        intro k hk hr
        unfold Row
        rw [pk_un hk, pk_un hk, pk_un hk, upd3, upd3, upd3, if_neg (by omega), if_neg (by omega), if_neg (by omega), if_neg (by omega), if_neg (by omega), if_neg (by omega), if_neg (by omega), if_neg (by omega), if_neg (by omega)]
        exact hr
      refine ih (j + 1) (l + 1) _ _ _ _ _ _ _ _ _ wr ke _ _ (by omega) (by omega) hM hC hR (fun k hk => ?_) (fun k h1 h2 => old k (by omega) (hB k (by omega) (by omega)))
      by_cases q : k = l
      · subst q
        unfold Row
        rw [pk_us, pk_us, pk_us, upd3, upd3, upd3, if_pos rfl, if_neg (by omega), if_pos rfl, if_neg (by omega), if_neg (by omega), if_pos rfl]
        exact ⟨rfl, rfl, rfl, w4⟩
      · exact old k q (hA k (by omega))
theorem faults_eq {cy fs ps : Int32} {K L1 L2 wg li : Nat → Int64} {R FC FP FB wr ke ma pn : Nat → Int32} (hM : RM K wr wg) (hC : RC L1 L2 li) (hR : RR R ke ma) (hF : RF FC FP FB fs ps pn) :
    RM (f_V_makePlannedFaults K L1 L2 R FC FP FB fs cy).1 wr (f_Mo_makeFaults wg ma li ps pn cy).1 ∧
    RC (f_V_makePlannedFaults K L1 L2 R FC FP FB fs cy).2.1 (f_V_makePlannedFaults K L1 L2 R FC FP FB fs cy).2.2.1 (f_Mo_makeFaults wg ma li ps pn cy).2.2.1 ∧
    RR (f_V_makePlannedFaults K L1 L2 R FC FP FB fs cy).2.2.2.1 ke (f_Mo_makeFaults wg ma li ps pn cy).2.1 ∧
    RF (f_V_makePlannedFaults K L1 L2 R FC FP FB fs cy).2.2.2.2.1 (f_V_makePlannedFaults K L1 L2 R FC FP FB fs cy).2.2.2.2.2.1 (f_V_makePlannedFaults K L1 L2 R FC FP FB fs cy).2.2.2.2.2.2.1 (f_V_makePlannedFaults K L1 L2 R FC FP FB fs cy).2.2.2.2.2.2.2 (f_Mo_makeFaults wg ma li ps pn cy).2.2.2.1 (f_Mo_makeFaults wg ma li ps pn cy).2.2.2.2 := by
  obtain ⟨rfl, hin, hrow⟩ := hF
  obtain ⟨f, hf, rfl⟩ := vp_in_of hin (by decide)
  unfold f_V_makePlannedFaults f_Mo_makeFaults
  rw [nI_clamp (by omega)] at hrow ⊢
  exact faults_l cy f 0 0 K L1 L2 wg li R FC FP FB wr ke ma pn (by omega) (by omega) hM hC hR (fun k hk => absurd hk (by omega)) (fun k h1 h2 => hrow k (by omega))
