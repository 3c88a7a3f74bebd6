/-! What a cycle keeps: the places of the faults and of the scrubber stay in range -/
theorem vp_le {x M : Int32} {n : Nat} (hM : M.toInt + 1 = (n : Int)) (h0 : ¬ x < 0) (h1 : x ≤ M) : vp_in x n := by
  rw [vp_in_iff]
  rw [Int32.le_iff_toInt_le] at h1
  have a := Int32.not_lt.mp h0
  rw [Int32.le_iff_toInt_le] at a
  have : (0 : Int32).toInt = 0 := rfl
  omega
theorem rn_z {x : Int32} {j N : Nat} (hN : N < 2 ^ 31) (h : vp_in x N) (e : j = x.toNatClampNeg) : x ≤ nI j := by
  obtain ⟨k, hk, rfl⟩ := vp_in_of h hN
  rw [nI_clamp (by omega)] at e
  exact nI_le (by omega) (by omega)
theorem rn_s {x : Int32} {j N : Nat} (hN : N < 2 ^ 31) (h : vp_in x N) (e : j < x.toNatClampNeg) : ¬ x ≤ nI j := by
  obtain ⟨k, hk, rfl⟩ := vp_in_of h hN
  rw [nI_clamp (by omega)] at e
  exact nI_ge (by omega) (by omega)
theorem mpf_l {cy : Int32} : ∀ (n j : Nat) (le : Int32) (K L1 L2 : Nat → Int64) (R FC FP FB : Nat → Int32) (N : Nat), j + n = N → N ≤ 16 → (∃ q, le = nI q ∧ q ≤ j ∧ ∀ k, k < q → vp_in (FP k) 168) → (∀ k, j ≤ k → k < N → vp_in (FP k) 168) →
    ∃ q, (f_V_makePlannedFaults_l4 cy n j le K L1 L2 R FC FP FB).2.2.2.2.2.2.2 = nI q ∧ q ≤ N ∧ ∀ k, k < q → vp_in ((f_V_makePlannedFaults_l4 cy n j le K L1 L2 R FC FP FB).2.2.2.2.2.1 k) 168 := by
  intro n
  induction n with
  | zero =>
    intro j le K L1 L2 R FC FP FB N hj hN hq _
    obtain ⟨q, e, h1, h2⟩ := hq
    exact ⟨q, e, by omega, h2⟩
  | succ n ih =>
    intro j le K L1 L2 R FC FP FB N hj hN hq hk
    obtain ⟨q, e, h1, h2⟩ := hq
    by_cases h : FC (nI j).toNatClampNeg = cy
    · have hF : f_V_makePlannedFaults_l4 cy (n + 1) j le K L1 L2 R FC FP FB = _ := if_pos h
      rw [hF]
      exact ih (j + 1) le _ _ _ _ FC FP FB N (by omega) hN ⟨q, e, by omega, h2⟩ (fun k a b => hk k (by omega) b)
    · have hF : f_V_makePlannedFaults_l4 cy (n + 1) j le K L1 L2 R FC FP FB = _ := if_neg h
      rw [hF]
      have ec : le.toNatClampNeg = q := by rw [e]; exact nI_clamp (by omega)
      refine ih (j + 1) (le + 1) _ _ _ _ _ _ _ N (by omega) hN ⟨q + 1, by rw [e]; exact nI_1 q, by omega, fun k a => ?_⟩ (fun k a b => ?_)
      · show vp_in (upd FP le.toNatClampNeg (FP (nI j).toNatClampNeg) k) 168
        by_cases hkq : k = q
        · rw [ec, hkq, pk_us, nI_clamp (by omega)]
          exact hk j (Nat.le_refl _) (by omega)
        · rw [pk_un (by rw [ec]; exact hkq)]
          exact h2 k (by omega)
      · show vp_in (upd FP le.toNatClampNeg (FP (nI j).toNatClampNeg) k) 168
        rw [pk_un (by rw [ec]; omega)]
        exact hk k (by omega) b
theorem mpf_q {K L1 L2 : Nat → Int64} {R FC FP FB : Nat → Int32} {fs cy : Int32} (h : vp_in fs 17) (hp : ∀ k, k < fs.toNatClampNeg → vp_in (FP k) 168) :
    ∃ q, (f_V_makePlannedFaults K L1 L2 R FC FP FB fs cy).2.2.2.2.2.2.2 = nI q ∧ q ≤ fs.toNatClampNeg ∧ ∀ k, k < q → vp_in ((f_V_makePlannedFaults K L1 L2 R FC FP FB fs cy).2.2.2.2.2.1 k) 168 :=
  mpf_l fs.toNatClampNeg 0 0 K L1 L2 R FC FP FB fs.toNatClampNeg (by omega) (cl17 h) ⟨0, rfl, Nat.le_refl _, fun k a => absurd a (by omega)⟩ (fun k _ b => hp k b)
theorem mpf_fs {K L1 L2 : Nat → Int64} {R FC FP FB : Nat → Int32} {fs cy : Int32} (h : vp_in fs 17) (hp : ∀ k, k < fs.toNatClampNeg → vp_in (FP k) 168) : vp_in (f_V_makePlannedFaults K L1 L2 R FC FP FB fs cy).2.2.2.2.2.2.2 17 := by
  obtain ⟨q, e, h1, -⟩ := mpf_q (K := K) (L1 := L1) (L2 := L2) (R := R) (FC := FC) (FB := FB) (cy := cy) h hp
  have := cl17 h
  rw [e]
  exact vp_in_nI (by omega) (by decide)
theorem mpf_fp {K L1 L2 : Nat → Int64} {R FC FP FB : Nat → Int32} {fs cy : Int32} (h : vp_in fs 17) (hp : ∀ k, k < fs.toNatClampNeg → vp_in (FP k) 168) : ∀ k, k < (f_V_makePlannedFaults K L1 L2 R FC FP FB fs cy).2.2.2.2.2.2.2.toNatClampNeg → vp_in ((f_V_makePlannedFaults K L1 L2 R FC FP FB fs cy).2.2.2.2.2.1 k) 168 := by
  obtain ⟨q, e, h1, h2⟩ := mpf_q (K := K) (L1 := L1) (L2 := L2) (R := R) (FC := FC) (FB := FB) (cy := cy) h hp
  have := cl17 h
  intro k hk
  rw [e, nI_clamp (by omega)] at hk
  exact h2 k hk
theorem sp_next {x : Int32} (h : vp_in x 64) : vp_in (u_rem (x + (1 : Int32)) (64 : Int32)) 64 := by
  obtain ⟨j, hj, rfl⟩ := vp_in_of h (by decide)
  rw [show nI j + (1 : Int32) = nI (j + 1) from nI_1 j, show u_rem (nI (j + 1)) (64 : Int32) = nI ((j + 1) % 64) from u_remN (by omega) (by decide) (by decide)]
  exact vp_in_nI (by omega) (by decide)
theorem scrub_sp {K : Nat → Int64} {co sp de : Int32} (h : vp_in sp 64) : vp_in (f_V_scrub K co sp de).2.2.1 64 := by
  unfold f_V_scrub
  dsimp only
  split <;> exact sp_next h
theorem mmf_l {cy : Int32} : ∀ (n j : Nat) (le : Int32) (wg : Nat → Int64) (ma : Nat → Int32) (li : Nat → Int64) (pn : Nat → Int32) (N : Nat), j + n = N → N ≤ 16 → (∃ q, le = nI q ∧ q ≤ j ∧ ∀ k, k < q → vp_in (pn (3 * k + 1)) 168) → (∀ k, j ≤ k → k < N → vp_in (pn (3 * k + 1)) 168) →
    ∃ q, (f_Mo_makeFaults_l4 cy n j le wg ma li pn).2.2.2.1 = nI q ∧ q ≤ N ∧ ∀ k, k < q → vp_in ((f_Mo_makeFaults_l4 cy n j le wg ma li pn).2.2.2.2 (3 * k + 1)) 168 := by
  intro n
  induction n with
  | zero =>
    intro j le wg ma li pn N hj hN hq _
    obtain ⟨q, e, h1, h2⟩ := hq
    exact ⟨q, e, by omega, h2⟩
  | succ n ih =>
    intro j le wg ma li pn N hj hN hq hk
    obtain ⟨q, e, h1, h2⟩ := hq
    by_cases h : pn ((3 : Int32) * nI j).toNatClampNeg = cy
    · have hF : f_Mo_makeFaults_l4 cy (n + 1) j le wg ma li pn = _ := if_pos h
      rw [hF]
      exact ih (j + 1) le _ _ _ pn N (by omega) hN ⟨q, e, by omega, h2⟩ (fun k a b => hk k (by omega) b)
    · have hF : f_Mo_makeFaults_l4 cy (n + 1) j le wg ma li pn = _ := if_neg h
      rw [hF]
      subst e
      have e3 : ∀ d, d < 3 → ((3 : Int32) * nI q + nI d).toNatClampNeg = 3 * q + d := fun d hd => by rw [p3_e]; exact nI_clamp (by omega)
      have i0 : ((3 : Int32) * nI q + (0 : Int32)).toNatClampNeg = 3 * q + 0 := e3 0 (by decide)
      have i1 : ((3 : Int32) * nI q + (1 : Int32)).toNatClampNeg = 3 * q + 1 := e3 1 (by decide)
      have i2 : ((3 : Int32) * nI q + (2 : Int32)).toNatClampNeg = 3 * q + 2 := e3 2 (by decide)
      have j1 : ((3 : Int32) * nI j + (1 : Int32)).toNatClampNeg = 3 * j + 1 := p3_cl (by omega)
      refine ih (j + 1) (nI q + 1) _ _ _ _ N (by omega) hN ⟨q + 1, nI_1 q, by omega, fun k a => ?_⟩ (fun k a b => ?_)
      · rw [i0, i1, i2]
        by_cases hkq : k = q
        · subst hkq
          rw [pk_un (by omega), pk_us, j1, pk_un (by omega)]
          exact hk j (Nat.le_refl _) (by omega)
        · rw [pk_un (by omega), pk_un (by omega), pk_un (by omega)]
          exact h2 k (by omega)
      · rw [i0, i1, i2, pk_un (by omega), pk_un (by omega), pk_un (by omega)]
        exact hk k (by omega) b
theorem mmf_q {wg : Nat → Int64} {ma : Nat → Int32} {li : Nat → Int64} {ps : Int32} {pn : Nat → Int32} {cy : Int32} (h : vp_in ps 17) (hp : ∀ k, k < ps.toNatClampNeg → vp_in (pn (3 * k + 1)) 168) :
    ∃ q, (f_Mo_makeFaults wg ma li ps pn cy).2.2.2.1 = nI q ∧ q ≤ ps.toNatClampNeg ∧ ∀ k, k < q → vp_in ((f_Mo_makeFaults wg ma li ps pn cy).2.2.2.2 (3 * k + 1)) 168 :=
  mmf_l ps.toNatClampNeg 0 0 wg ma li pn ps.toNatClampNeg (by omega) (cl17 h) ⟨0, rfl, Nat.le_refl _, fun k a => absurd a (by omega)⟩ (fun k _ b => hp k b)
theorem mmf_ps {wg : Nat → Int64} {ma : Nat → Int32} {li : Nat → Int64} {ps : Int32} {pn : Nat → Int32} {cy : Int32} (h : vp_in ps 17) (hp : ∀ k, k < ps.toNatClampNeg → vp_in (pn (3 * k + 1)) 168) : vp_in (f_Mo_makeFaults wg ma li ps pn cy).2.2.2.1 17 := by
  obtain ⟨q, e, h1, -⟩ := mmf_q (wg := wg) (ma := ma) (li := li) (cy := cy) h hp
  have := cl17 h
  rw [e]
  exact vp_in_nI (by omega) (by decide)
theorem mmf_pp {wg : Nat → Int64} {ma : Nat → Int32} {li : Nat → Int64} {ps : Int32} {pn : Nat → Int32} {cy : Int32} (h : vp_in ps 17) (hp : ∀ k, k < ps.toNatClampNeg → vp_in (pn (3 * k + 1)) 168) : ∀ k, k < (f_Mo_makeFaults wg ma li ps pn cy).2.2.2.1.toNatClampNeg → vp_in ((f_Mo_makeFaults wg ma li ps pn cy).2.2.2.2 (3 * k + 1)) 168 := by
  obtain ⟨q, e, h1, h2⟩ := mmf_q (wg := wg) (ma := ma) (li := li) (cy := cy) h hp
  have := cl17 h
  intro k hk
  rw [e, nI_clamp (by omega)] at hk
  exact h2 k hk
theorem cn5_mend {wg : Nat → Int64} {cn : Nat → Int32} {w : Int32} : (f_Mo_mend wg cn w).2.2 5 = cn 5 := by
  unfold f_Mo_mend
  (repeat' split) <;> first | rfl | exact pk_un (by decide)
theorem cn5_holds0 {li : Nat → Int64} {cn : Nat → Int32} {w : Int32} : (f_Mo_holds li cn (0 : Int32) w).2.2 5 = cn 5 := by
  unfold f_Mo_holds
  (repeat' split) <;> first | rfl | exact pk_un (by decide)
theorem cn5_holds1 {li : Nat → Int64} {cn : Nat → Int32} {w : Int32} : (f_Mo_holds li cn (1 : Int32) w).2.2 5 = cn 5 := by
  unfold f_Mo_holds
  (repeat' split) <;> first | rfl | exact pk_un (by decide)
theorem cn5_fetch0 {wr : Nat → Int32} {wg li : Nat → Int64} {ca va : Int32} {cn : Nat → Int32} {go w : Int32} : (f_Mo_fetch wr wg li ca va cn go (0 : Int32) w).2.2.2.2.2.1 5 = cn 5 := by
  unfold f_Mo_fetch
  dsimp only
  (repeat' split) <;> simp only [cn5_mend, cn5_holds0]
theorem cn5_fetch1 {wr : Nat → Int32} {wg li : Nat → Int64} {ca va : Int32} {cn : Nat → Int32} {go w : Int32} : (f_Mo_fetch wr wg li ca va cn go (1 : Int32) w).2.2.2.2.2.1 5 = cn 5 := by
  unfold f_Mo_fetch
  dsimp only
  (repeat' split) <;> simp only [cn5_mend, cn5_holds1]
theorem cn5_save {wr : Nat → Int32} {wg li : Nat → Int64} {cn : Nat → Int32} {w v : Int32} : (f_Mo_save wr wg li cn w v).2.2.2 5 = cn 5 := by
  unfold f_Mo_save
  dsimp only
  (repeat' split) <;> simp only [cn5_holds0, cn5_holds1]
theorem cn5_load {wr : Nat → Int32} {wg li : Nat → Int64} {ca va : Int32} {cn : Nat → Int32} {px go gi gn f a : Int32} : (f_Mo_load wr wg li ca va cn px go gi gn f a).2.2.2.2.1 5 = cn 5 := by
  unfold f_Mo_load
  dsimp only
  (repeat' split) <;> simp only [cn5_fetch1]
theorem cn5_store {wr : Nat → Int32} {wg li : Nat → Int64} {ca va : Int32} {cn : Nat → Int32} {px go f a b : Int32} : (f_Mo_store wr wg li ca va cn px go f a b).2.2.2.2.2.1 5 = cn 5 := by
  unfold f_Mo_store
  dsimp only
  (repeat' split) <;> simp only [cn5_fetch1, cn5_save]
theorem cn5_execute {wr : Nat → Int32} {wg : Nat → Int64} {ke ma : Nat → Int32} {li : Nat → Int64} {ca va : Int32} {cn : Nat → Int32} {pp px go ne gi gn : Int32} : (f_Mo_execute wr wg ke ma li ca va cn pp px go ne gi gn).2.2.2.2.2.1 5 = cn 5 := by
  unfold f_Mo_execute
  dsimp only
  (repeat' split) <;> simp only [cn5_load, cn5_store]
theorem cn5_instruct {wr : Nat → Int32} {wg : Nat → Int64} {ke ma : Nat → Int32} {li : Nat → Int64} {ca va : Int32} {cn : Nat → Int32} {pp px go ne gi gn : Int32} : (f_Mo_instruct wr wg ke ma li ca va cn pp px go ne gi gn).2.2.2.2.2.2.2.1 5 = cn 5 := by
  unfold f_Mo_instruct
  dsimp only
  (repeat' split) <;> simp only [cn5_fetch0, cn5_execute]
theorem cn5_vote_l : ∀ (n j : Nat) (ke ma cn : Nat → Int32), (f_Mo_vote_l2 n j ke ma cn).2.2 5 = cn 5 := by
  intro n
  induction n with
  | zero => intro j ke ma cn; rfl
  | succ n ih =>
    intro j ke ma cn
    unfold f_Mo_vote_l2
    dsimp only
    (repeat' split) <;> (rw [ih]; exact pk_un (by decide))
theorem cn5_vote {ke ma cn : Nat → Int32} : (f_Mo_vote ke ma cn).2.2 5 = cn 5 := cn5_vote_l 32 0 ke ma cn
theorem mo_sp1 {wr : Nat → Int32} {wg : Nat → Int64} {ke ma ke2 ma2 : Nat → Int32} {li : Nat → Int64} {ca va : Int32} {cn : Nat → Int32} {pp px go ne gi gn : Int32} (h : vp_in (cn 5) 64) : vp_in ((f_Mo_instruct wr wg ke ma li ca va (f_Mo_vote ke2 ma2 cn).2.2 pp px go ne gi gn).2.2.2.2.2.2.2.1 5) 64 := by
  rw [cn5_instruct, cn5_vote]
  exact h
theorem mo_sp3 {wg : Nat → Int64} {cn : Nat → Int32} (h : vp_in (cn 5) 64) : vp_in ((f_Mo_scrub wg cn).2 5) 64 := by
  have e5 : ((5 : Int32).toNatClampNeg) = 5 := by decide
  unfold f_Mo_scrub
  dsimp only
  split
  · dsimp only
    rw [e5, pk_us, pk_un (by decide), cn5_mend]
    exact sp_next h
  · dsimp only
    rw [e5, pk_us, cn5_mend]
    exact sp_next h
theorem mo_sp2 {wr : Nat → Int32} {wg wg2 : Nat → Int64} {ke ma ke2 ma2 : Nat → Int32} {li : Nat → Int64} {ca va : Int32} {cn : Nat → Int32} {pp px go ne gi gn : Int32} (h : vp_in (cn 5) 64) : vp_in ((f_Mo_scrub wg2 (f_Mo_instruct wr wg ke ma li ca va (f_Mo_vote ke2 ma2 cn).2.2 pp px go ne gi gn).2.2.2.2.2.2.2.1).2 5) 64 := mo_sp3 (mo_sp1 h)
