/-! My own rows over the kit: one list of words for all methods (GW), one start for all contracts (PW), one row a call (cj_..). -/
theorem gw_good {c : Cond} (hc : c ∈ GW) : GoodIn GW (c :: GW) := by
  have h : ∀ w ∈ GW, (w.onTables && w.keeps) = true ∨ ∃ ty, w = .arrayClass ty := fun w hw => good_of_word (List.mem_filter.mp hw).2
  intro w hw
  rcases List.mem_cons.mp hw with rfl | hw
  · exact ⟨hc, h _ hc⟩
  · exact ⟨hw, h _ hw⟩
/-- the words of nest mates: carried beside the tables -/
def NW (U : State) : Prop := ∀ w ∈ nestW, va_Nw w U
theorem nw_one {w : Cond} (hw : nw_is w = true) {s U : State} (hW : s.WarmedH U.vm) (h : va_Nw w s) : va_Nw w U := by
  cases w <;> first | (simp [nw_is] at hw; done) | exact va_Nw.warmF hW h | exact va_Nw.warmM hW h
theorem nw_on {w : Cond} (hw : nw_is w = true) : w.onTables = true := by
  cases w <;> first | (simp [nw_is] at hw; done) | rfl
theorem NW.warm {s U : State} (hW : s.WarmedH U.vm) (h : NW s) : NW U := fun w hw => nw_one (List.mem_filter.mp hw).2 hW (h w hw)
theorem NW.same {s U : State} (hv : s.vm = U.vm) (h : NW s) : NW U := fun w hw => va_Nw.same (nw_on (List.mem_filter.mp hw).2) hv (h w hw)
theorem NW.use {s : State} {args : Array Value} {w : Cond} (h : NW s) (hw : w ∈ nestW) : w.before args s = true := va_Nw.use (nw_on (List.mem_filter.mp hw).2) (h w hw)
/-- the table NUMBERED of the class Memory -/
def ST (A : Nat → Prop) (U : State) (H : Heap) : Prop := ∃ t : Nat, va_Z "VotedCore$Memory" "NUMBERED" "[J" (.ref t) A U H ∧ va_T .long t 6 numV A U H
theorem ST.moved {A : Nat → Prop} {u U : State} {H : Heap} (hvm : u.vm.Alike U.vm) (h : ST A u H) : ST A U H := by
  obtain ⟨t, h1, h2⟩ := h
  exact ⟨t, h1.moved hvm, h2.moved hvm⟩
theorem ST.kept {A : Nat → Prop} {U : State} {H H1 : Heap} (h : ST A U H) (hq : ∀ a : Nat, a < H.size → ¬ A a → H1[a]? = H[a]?) : ST A U H1 := by
  obtain ⟨t, h1, h2⟩ := h
  exact ⟨t, h1.kept hq, h2.kept hq⟩
theorem ST.narrow {A B : Nat → Prop} {U : State} {H : Heap} (h : ST A U H) (hAB : ∀ q, B q → A q) : ST B U H := by
  obtain ⟨t, h1, h2⟩ := h
  exact ⟨t, h1.narrow hAB, h2.narrow hAB⟩
abbrev TY (cI cL : ClassId) : List (ClassId × FieldType) := [(cI, .int), (cL, .long)]
/-- every contract's start -/
def PW (D : va_G) (cI cL : ClassId) (ws : va_W) (sz : Nat) (U : State) : Prop :=
  U.heap.size = sz ∧ va_P D classes ws U.heap ∧ va_K D classes (TY cI cL) U ∧ NW U ∧ va_D (fun _ => True) ws ∧ ST (va_A ws sz) U U.heap
theorem pw_blind {D : va_G} {cI cL : ClassId} {ws : va_W} {sz : Nat} {As : List Value} : FrameBlind (va_Pc As (PW D cI cL ws sz)) := by
  intro a U g mk h
  obtain ⟨h0, h1, h2, h3, h4, h5, h6⟩ := h
  exact ⟨h0, h1, h2, va_K.moved (u := U) (U := U.calling g mk a) (Vm.Alike.refl U.vm) h3, NW.same (s := U) (U := U.calling g mk a) rfl h4, h5, ST.moved (u := U) (U := U.calling g mk a) (Vm.Alike.refl U.vm) h6⟩
section PWS
variable {s : State} {H : Heap} {D : va_G} {cI cL : ClassId} {ws wc : va_W} {A0 : Nat → Prop} {locs : List Loc} {As : List Value}
theorem pw_at (hK : va_K D classes (TY cI cL) s) (hN : NW s) (hT : ST A0 s s.heap) (hA : ∀ q, s.heap.size ≤ q → A0 q) (hP : va_P D classes ws H) (hD : va_D A0 ws) (hS : va_S A0 s.heap H locs) (isC : List Nat) (hC : isC.map (fun i => ws[i]?) = wc.map some) (hnd : va_nd isC = true) {U : State} (hU : U.heap = H) (hW : s.WarmedH U.vm) : PW D cI cL wc H.size U := by
  have hF := va_free (wc := wc) hD hS hA isC hC
  have hC' : isC.filterMap (fun i => ws[i]?) = wc := by
    have : ∀ (l : List Nat) (w : va_W), l.map (fun i => ws[i]?) = w.map some → l.filterMap (fun i => ws[i]?) = w := by
      intro l
      induction l with
      | nil => intro w h; cases w with
        | nil => rfl
        | cons a w => cases h
      | cons a l ih =>
        intro w h
        cases w with
        | nil => cases h
        | cons b w =>
          simp only [List.map_cons, List.cons.injEq] at h
          rw [List.filterMap_cons, h.1, ih w h.2]
    exact this isC wc hC
  refine ⟨by rw [hU], by rw [hU]; exact hP.sub isC hC', va_K.moved hW.alike hK, hN.warm hW, (hD.sub isC hnd hC).weaken (fun _ _ _ _ => trivial), ?_⟩
  rw [hU]
  exact ((hT.kept hS.2.1).narrow hF).moved hW.alike
theorem pw_S (hK : va_K D classes (TY cI cL) s) (hN : NW s) (hT : ST A0 s s.heap) (hA : ∀ q, s.heap.size ≤ q → A0 q) (hP : va_P D classes ws H) (hD : va_D A0 ws) (hS : va_S A0 s.heap H locs) (isC : List Nat) (hC : isC.map (fun i => ws[i]?) = wc.map some) (hnd : va_nd isC = true) : PreS s H (va_Pc As (PW D cI cL wc H.size)) As :=
  ⟨pw_blind, fun _ hU hW => ⟨rfl, pw_at hK hN hT hA hP hD hS isC hC hnd hU hW⟩⟩
theorem pw_V (hK : va_K D classes (TY cI cL) s) (hN : NW s) (hT : ST A0 s s.heap) (hA : ∀ q, s.heap.size ≤ q → A0 q) (hP : va_P D classes ws H) (hD : va_D A0 ws) (hS : va_S A0 s.heap H locs) (isC : List Nat) (hC : isC.map (fun i => ws[i]?) = wc.map some) (hnd : va_nd isC = true) {q0 ci b : Nat} {q : vw_C} {fs : List Value} (hc : classes[ci]? = some q) (he : ws[q0]? = some (b, .inr (ci, fs))) : PreV s H q.1 b (va_Pc (.ref b :: As) (PW D cI cL wc H.size)) As :=
  ⟨pw_blind, va_recv hK hP hc he, fun _ hU hW => ⟨rfl, pw_at hK hN hT hA hP hD hS isC hC hnd hU hW⟩⟩
end PWS
theorem va_D.adr {A : Nat → Prop} {wc w1 : va_W} (h : va_D A wc) (he : w1.map (·.1) = wc.map (·.1)) : va_D A w1 := by
  have key : ∀ (k : Nat) (q : Nat × va_E), w1[k]? = some q → ∃ q', wc[k]? = some q' ∧ q'.1 = q.1 := by
    intro k q hk
    have h1 : (w1.map (·.1))[k]? = some q.1 := by rw [List.getElem?_map, hk]; rfl
    rw [he, List.getElem?_map] at h1
    cases hc : wc[k]? with
    | none => rw [hc] at h1; cases h1
    | some q' => rw [hc] at h1; exact ⟨q', rfl, Option.some.inj h1⟩
  refine ⟨fun i j x y hi hj hxy => ?_, fun k q hk => ?_⟩
  · obtain ⟨x', hx, ex⟩ := key i x hi
    obtain ⟨y', hy, ey⟩ := key j y hj
    exact h.1 i j x' y' hx hy (by rw [ex, ey, hxy])
  · obtain ⟨q', hq, eq⟩ := key k q hk
    rw [← eq]
    exact h.2 k q' hq
/-- cells of a world replaced in place -/
def vj_set : va_W → List Nat → va_W → va_W
  | ws, i :: is, q :: w => vj_set (ws.set i q) is w
  | ws, _, _ => ws
theorem vj_at : ∀ (is : List Nat) (ws w1 : va_W), is.length = w1.length → ∀ (k : Nat) (q : Nat × va_E), (vj_set ws is w1)[k]? = some q → (k ∉ is ∧ ws[k]? = some q) ∨ ∃ j : Nat, is[j]? = some k ∧ w1[j]? = some q
  | [], ws, w1, _, k, q, h => by
    have h : ws[k]? = some q := by cases w1 <;> exact h
    exact Or.inl ⟨by simp, h⟩
  | i :: is, ws, [], hl, k, q, h => by simp at hl
  | i :: is, ws, q0 :: w1, hl, k, q, h => by
    have h : (vj_set (ws.set i q0) is w1)[k]? = some q := h
    rcases vj_at is (ws.set i q0) w1 (by simpa using hl) k q h with ⟨h1, h2⟩ | ⟨j, h1, h2⟩
    · by_cases hk : i = k
      · subst hk
        rw [List.getElem?_set] at h2
        by_cases hi : i < ws.length
        · simp [hi] at h2
          exact Or.inr ⟨0, rfl, by rw [← h2]; rfl⟩
        · simp [hi] at h2
      · rw [List.getElem?_set_ne hk] at h2
        exact Or.inl ⟨by simp [h1]; exact fun e => hk e.symm, h2⟩
    · exact Or.inr ⟨j + 1, h1, h2⟩
theorem vj_adr : ∀ (is : List Nat) (ws w1 : va_W), (∀ (j i : Nat) (q : Nat × va_E), is[j]? = some i → w1[j]? = some q → (ws[i]?).map (·.1) = some q.1) → (vj_set ws is w1).map (·.1) = ws.map (·.1)
  | [], ws, w1, _ => by cases w1 <;> rfl
  | i :: is, ws, [], _ => rfl
  | i :: is, ws, q0 :: w1, h => by
    have h0 : (ws[i]?).map (·.1) = some q0.1 := h 0 i q0 rfl rfl
    have hs : (ws.set i q0).map (·.1) = ws.map (·.1) := by
      apply List.ext_getElem?
      intro k
      rw [List.getElem?_map, List.getElem?_map, List.getElem?_set]
      by_cases hk : i = k
      · subst hk
        cases hw : ws[i]? with
        | none => rw [hw] at h0; cases h0
        | some x =>
          rw [hw] at h0
          have hlt : i < ws.length := (List.getElem?_eq_some_iff.mp hw).1
          simp [hlt]
          exact (Option.some.inj h0).symm
      · simp [hk]
    have := vj_adr is (ws.set i q0) w1 (fun j i' q hj hq => by
      have e : ((ws.set i q0)[i']?).map (·.1) = (ws[i']?).map (·.1) := by
        have h9 := congrArg (fun l => l[i']?) hs
        simp only [List.getElem?_map] at h9
        exact h9
      rw [e]
      exact h (j + 1) i' q hj hq)
    show (vj_set (ws.set i q0) is w1).map (·.1) = _
    rw [this, hs]
section CJ
variable {p : Program} {l : Launch} {e : Env} {R : Room} {s : State} {m : MethodId} {args : Array Value} {below : List Frame} {meth : Method} {c : Code} {H : Heap} {locs : List Loc} {cells slots mc ms : Nat} {Q : State → Prop}
variable {pc : Nat} {ls : Array Slot} {rest st0 : List Value} {a : Array Value} {A0 : Nat → Prop} {H0 : Heap} {D : va_G} {cl : List vw_C} {ws wc w1 : va_W}
theorem cj_w {H1 : Heap} (hP : va_P D cl ws H) (hD : va_D A0 ws) (isC : List Nat) (hC : isC.map (fun i => ws[i]?) = wc.map some) (hadr : w1.map (·.1) = wc.map (·.1))
    (hk : ∀ q : Nat, q < H.size → ¬ va_A wc H.size q → H1[q]? = H[q]?) (hP1 : va_P D cl w1 H1) : va_P D cl (vj_set ws isC w1) H1 ∧ va_D A0 (vj_set ws isC w1) := by
  have hl1 : isC.length = wc.length := by have := congrArg List.length hC; simpa using this
  have hl2 : w1.length = wc.length := by have := congrArg List.length hadr; simpa using this
  have hat : ∀ (k i : Nat), isC[k]? = some i → wc[k]? = ws[i]? := by
    intro k i hi
    have h1 : (isC.map (fun i => ws[i]?))[k]? = some (ws[i]?) := by rw [List.getElem?_map, hi]; rfl
    rw [hC, List.getElem?_map] at h1
    cases hw : wc[k]? with
    | none => rw [hw] at h1; cases h1
    | some x => rw [hw] at h1; exact Option.some.inj h1
  refine ⟨fun k q hq => ?_, hD.adr (vj_adr isC ws w1 (fun j i q hj hq => ?_))⟩
  · rcases vj_at isC ws w1 (hl1.trans hl2.symm) k q hq with ⟨h1, h2⟩ | ⟨j, -, h2⟩
    · refine (hP k q h2).kept (hk q.1 (hP k q h2).lt (fun h => ?_))
      rcases h with ⟨k2, e2, h⟩ | h
      · cases hi : isC[k2]? with
        | none =>
          have : k2 < wc.length := (List.getElem?_eq_some_iff.mp h).1
          have h3 := List.getElem?_eq_none_iff.mp hi
          omega
        | some i =>
          rw [hat k2 i hi] at h
          have := hD.1 k i q (q.1, e2) h2 h rfl
          subst this
          exact h1 (List.mem_of_getElem? hi)
      · have := (hP k q h2).lt
        omega
    · exact hP1 j q h2
  · have h1 : (w1.map (·.1))[j]? = some q.1 := by rw [List.getElem?_map, hq]; rfl
    rw [hadr, List.getElem?_map, hat j i hj] at h1
    exact h1
theorem cj_i (hP : va_P D cl ws H) (hD : va_D A0 ws) (hS : va_S A0 H0 H locs) (hA : ∀ q, H0.size ≤ q → A0 q) (isC : List Nat) (hC : isC.map (fun i => ws[i]?) = wc.map some) (adr : List Nat) (hadr1 : w1.map (·.1) = adr) (hadr2 : wc.map (·.1) = adr) {F : Int32}
    (hr : va_Run p l e R s m args below meth c H locs cells slots mc ms (F0 m pc ls st0) rest (va_Qi (fun r (_ : Unit) => r = F) (fun _ t => va_P D cl w1 t.heap) (va_A wc H.size) a) (va_A wc H.size))
    (kk : ∀ (H1 : Heap) (locs1 : List Loc), va_P D cl (vj_set ws isC w1) H1 → va_D A0 (vj_set ws isC w1) → va_S A0 H0 H1 locs1 → W p l e R s m args below meth c H1 locs1 (cells + mc) (slots + ms) Q (F0 m (pc + 3) ls (.int F :: rest))) : W p l e R s m args below meth c H locs cells slots Q (F0 m pc ls st0) := by
  have hF := va_free (wc := wc) hD hS hA isC hC
  refine va_calli hr hS (fun q _ h => hF q h) hF (fun r u t H1 locs1 ht _ hw hB _ hk1 hS1 => ?_)
  subst hw
  subst ht
  obtain ⟨g1, g2⟩ := cj_w hP hD isC hC (hadr1.trans hadr2.symm) hk1 hB
  exact kk _ _ g1 g2 hS1
theorem cj_l (hP : va_P D cl ws H) (hD : va_D A0 ws) (hS : va_S A0 H0 H locs) (hA : ∀ q, H0.size ≤ q → A0 q) (isC : List Nat) (hC : isC.map (fun i => ws[i]?) = wc.map some) (adr : List Nat) (hadr1 : w1.map (·.1) = adr) (hadr2 : wc.map (·.1) = adr) {F : Int64}
    (hr : va_Run p l e R s m args below meth c H locs cells slots mc ms (F0 m pc ls st0) rest (va_Ql (fun r (_ : Unit) => r = F) (fun _ t => va_P D cl w1 t.heap) (va_A wc H.size) a) (va_A wc H.size))
    (kk : ∀ (H1 : Heap) (locs1 : List Loc), va_P D cl (vj_set ws isC w1) H1 → va_D A0 (vj_set ws isC w1) → va_S A0 H0 H1 locs1 → W p l e R s m args below meth c H1 locs1 (cells + mc) (slots + ms) Q (F0 m (pc + 3) ls (.long F :: rest))) : W p l e R s m args below meth c H locs cells slots Q (F0 m pc ls st0) := by
  have hF := va_free (wc := wc) hD hS hA isC hC
  refine va_calll hr hS (fun q _ h => hF q h) hF (fun r u t H1 locs1 ht _ hw hB _ hk1 hS1 => ?_)
  subst hw
  subst ht
  obtain ⟨g1, g2⟩ := cj_w hP hD isC hC (hadr1.trans hadr2.symm) hk1 hB
  exact kk _ _ g1 g2 hS1
theorem cj_v (hP : va_P D cl ws H) (hD : va_D A0 ws) (hS : va_S A0 H0 H locs) (hA : ∀ q, H0.size ≤ q → A0 q) (isC : List Nat) (hC : isC.map (fun i => ws[i]?) = wc.map some) (adr : List Nat) (hadr1 : w1.map (·.1) = adr) (hadr2 : wc.map (·.1) = adr)
    (hr : va_Run p l e R s m args below meth c H locs cells slots mc ms (F0 m pc ls st0) rest (va_Qv (fun (_ : Unit) => True) (fun _ t => va_P D cl w1 t.heap) (va_A wc H.size) a) (va_A wc H.size))
    (kk : ∀ (H1 : Heap) (locs1 : List Loc), va_P D cl (vj_set ws isC w1) H1 → va_D A0 (vj_set ws isC w1) → va_S A0 H0 H1 locs1 → W p l e R s m args below meth c H1 locs1 (cells + mc) (slots + ms) Q (F0 m (pc + 3) ls rest)) : W p l e R s m args below meth c H locs cells slots Q (F0 m pc ls st0) := by
  have hF := va_free (wc := wc) hD hS hA isC hC
  refine va_callv hr hS (fun q _ h => hF q h) hF (fun u t H1 locs1 ht _ hw hB _ hk1 hS1 => ?_)
  subst ht
  obtain ⟨g1, g2⟩ := cj_w hP hD isC hC (hadr1.trans hadr2.symm) hk1 hB
  exact kk _ _ g1 g2 hS1
end CJ
/-- a contract out of one walk: all that a body needs, named once -/
theorem mk_met {l : Launch} {y : MethodName} {bytes : ByteArray} {n : Nat} {ret : Option FieldType} {rm : Room} {D : va_G} {cI cL : ClassId} {ws : va_W} {sz : Nat} {av : List Value} {Qf : (Nat → Prop) → Array Value → State → Outcome → State → Prop} {mc ms : Nat} (hy : plainName y.cls = true) (hn : (lg_sl av).length ≤ n)
    (body : ∀ (p : Program) (e : Env) (s : State) (m : MethodId) (below : List Frame) (meth : Method) (c : Code) (A : Nat → Prop) (ls : Array Slot), p.tables.exec = Jvm.exec → c.code = bytes → meth.sig.returnType = ret → meth.locks = false → c.maxLocals = n → s.vm.findClass y.cls = some m.cls → (∀ w ∈ GW, w.before av.toArray s = true) → va_K D classes (TY cI cL) s → NW s → ST A s s.heap → (∀ q, s.heap.size ≤ q → A q) → va_P D classes ws s.heap → va_D A ws → va_S A s.heap s.heap [] → meth.name = y.name → lv_has ls n (lv_args 0 av) → W p l e rm s m av.toArray below meth c s.heap [] 0 0 (MQ below (Qf A) av.toArray s mc ms A) (F0 m 0 ls [])) :
    Met l y (.code y bytes n ret :: GW) rm (va_Pc av (PW D cI cL ws sz)) (Qf (va_A ws sz)) mc ms (va_A ws sz) := by
  refine Met.ofW (cc := bytes) (maxL := n) (ret := ret) hy rfl ?_
  intro p e s m args below meth c s₁ B hml hv
  obtain ⟨rfl, hsz, hP, hK, hN, hD0, hT⟩ := hv
  have hts := atoms_spec (ws := .code y bytes n ret :: GW) B.pre
  subst hsz
  rw [lg_entry_eq]
  exact body p e s m below meth c (va_A ws s.heap.size) _ B.exec B.bytes B.returns B.notSynchronized hml (findClass_of_methodNamed B.named) (fun w h => hts w (List.mem_cons_of_mem _ h)) hK hN hT (fun q h => Or.inr h) hP hD0.self va_S.rf (name_of_methodNamed B.named B.method).1 (lv_entry av hn)
theorem vp_ofb {i : Int32} {n : Nat} (h : decide (¬ (i < 0 ∨ n ≤ i.toNatClampNeg)) = true) : vp_in i n := (of_decide_eq_true h : ¬ (i < 0 ∨ n ≤ i.toNatClampNeg))
theorem vp_cmp {x M : Int32} {n : Nat} (hM : M.toInt = n) (h0 : ¬ x < 0) (h1 : ¬ M ≤ x) : vp_in x n := by
  rw [vp_in_iff]
  have a := Int32.not_lt.mp h0
  have b := Int32.not_le.mp h1
  rw [Int32.le_iff_toInt_le] at a
  rw [Int32.lt_iff_toInt_lt, hM] at b
  exact ⟨by simpa using a, b⟩
theorem vp_cmp' {x M : Int32} {n : Nat} (hM : M.toInt = n) (h0 : ¬ x < 0) (h1 : x < M) : vp_in x n := vp_cmp hM h0 (Int32.not_le.mpr h1)

abbrev W_Me (cI cL : ClassId) (g0 g1 : Nat) (K : Nat → Int64) (co : Int32) : va_W := [(g0, .inr (1, [.ref g1, .int co])), (g1, .inl (cL, 64, .inr (.inl K)))]
abbrev W_Ca (cI cL : ClassId) (g0 g1 : Nat) (L : Nat → Int64) (rf : Int32) : va_W := [(g0, .inr (2, [.ref g1, .int rf])), (g1, .inl (cL, 4, .inr (.inl L)))]
abbrev W_Re (cI cL : ClassId) (g0 g1 : Nat) (R : Nat → Int32) (vo : Int32) : va_W := [(g0, .inr (3, [.ref g1, .int vo])), (g1, .inl (cI, 96, .inl R))]
abbrev W_Fa (cI cL : ClassId) (g0 g1 g2 g3 : Nat) (FC : Nat → Int32) (FP : Nat → Int32) (FB : Nat → Int32) (fs : Int32) : va_W := [(g0, .inr (4, [.ref g1, .ref g2, .ref g3, .int fs])), (g1, .inl (cI, 16, .inl FC)), (g2, .inl (cI, 16, .inl FP)), (g3, .inl (cI, 16, .inl FB))]
abbrev W_L4 (cI cL : ClassId) (g0 : Nat) (L : Nat → Int64) : va_W := [(g0, .inl (cL, 4, .inr (.inl L)))]
abbrev W_V (cI cL : ClassId) (a0 a1 a2 a3 a4 a5 a6 a7 a8 a9 a10 a11 a12 : Nat) (ev : Int32) (K : Nat → Int64) (co : Int32) (L1 : Nat → Int64) (r1 : Int32) (L2 : Nat → Int64) (r2 : Int32) (R : Nat → Int32) (vo : Int32) (FC : Nat → Int32) (FP : Nat → Int32) (FB : Nat → Int32) (fs : Int32) (cy : Int32) (sp : Int32) (de : Int32) (ca : Int32) (va : Int32) : va_W := [(a0, .inr (0, [.int ev, .ref a1, .ref a3, .ref a5, .ref a7, .ref a9, .int cy, .int sp, .int de, .int ca, .int va])), (a1, .inr (1, [.ref a2, .int co])), (a2, .inl (cL, 64, .inr (.inl K))), (a3, .inr (2, [.ref a4, .int r1])), (a4, .inl (cL, 4, .inr (.inl L1))), (a5, .inr (2, [.ref a6, .int r2])), (a6, .inl (cL, 4, .inr (.inl L2))), (a7, .inr (3, [.ref a8, .int vo])), (a8, .inl (cI, 96, .inl R)), (a9, .inr (4, [.ref a10, .ref a11, .ref a12, .int fs])), (a10, .inl (cI, 16, .inl FC)), (a11, .inl (cI, 16, .inl FP)), (a12, .inl (cI, 16, .inl FB))]
abbrev W_Mo (cI cL : ClassId) (b0 b1 b2 b3 b4 b5 b6 b7 : Nat) (ev : Int32) (wr : Nat → Int32) (wg : Nat → Int64) (ke : Nat → Int32) (ma : Nat → Int32) (li : Nat → Int64) (ps : Int32) (pn : Nat → Int32) (cy : Int32) (ca : Int32) (va : Int32) (cn : Nat → Int32) (pp : Int32) (px : Int32) (go : Int32) (ne : Int32) (gi : Int32) (gn : Int32) : va_W := [(b0, .inr (5, [.int ev, .ref b1, .ref b2, .ref b3, .ref b4, .ref b5, .int ps, .ref b6, .int cy, .int ca, .int va, .ref b7, .int pp, .int px, .int go, .int ne, .int gi, .int gn])), (b1, .inl (cI, 64, .inl wr)), (b2, .inl (cL, 64, .inr (.inl wg))), (b3, .inl (cI, 32, .inl ke)), (b4, .inl (cI, 96, .inl ma)), (b5, .inl (cL, 8, .inr (.inl li))), (b6, .inl (cI, 48, .inl pn)), (b7, .inl (cI, 6, .inl cn))]
