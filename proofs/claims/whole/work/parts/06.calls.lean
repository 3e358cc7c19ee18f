/-! ===== a contract is a Met; a call by a contract ===== -/
def Bx (E : Ev) (ws : va_W) (sz : Nat) (U : State) : Prop := U.heap.size = sz ∧ va_P (eD E) vwCl ws U.heap ∧ va_D (fun _ => True) ws ∧ Amb E (va_A ws sz) U U.heap
def Qx (E : Ev) (ws : va_W) (sz : Nat) (post : Option Value → va_W → Prop) : Array Value → State → Outcome → State → Prop := fun _ st oc t => (∃ (v : Option Value) (w : va_W), oc = .returned v ∧ post v w ∧ va_P (eD E) vwCl w t.heap ∧ va_D (va_A ws sz) w) ∧ va_F (va_A ws sz) st t
theorem Bx.blind {E : Ev} {ws : va_W} {sz : Nat} {av : List Value} : FrameBlind (va_Pc av (Bx E ws sz)) := by
  intro a U g mk h
  obtain ⟨h1, h2, h3, h4, h5⟩ := h
  exact ⟨h1, h2, h3, h4, h5.same rfl⟩
set_option maxHeartbeats 4000000 in
theorem SP.met {E : Ev} {M : Mt} {d kc ks : Nat} {av : List Value} {ws : va_W} {post : Option Value → va_W → Prop} (l : Launch) (sz : Nat) (hy : plainName M.1.cls = true) (hL : (lg_sl av).length ≤ M.2.2.1) (h : SP E M d kc ks av ws post) :
    Met l M.1 (cdW M) (rmOf d kc ks) (va_Pc av (Bx E ws sz)) (Qx E ws sz post) kc ks (va_A ws sz) := by
  refine Met.ofW (cc := M.2.1) (maxL := M.2.2.1) (ret := M.2.2.2) hy rfl ?_
  intro p e s m args below meth c s₁ B hml hv
  obtain ⟨rfl, hsz, hP, hD0, hAm⟩ := hv
  have hx := B.exec
  have hb := B.bytes
  have hr := B.returns
  have hts := atoms_spec (ws := cdW M) B.pre
  have hown : s.vm.findClass M.1.cls = some m.cls := findClass_of_methodNamed B.named
  have hlocks := B.notSynchronized
  have hnm : meth.name = M.1.name := (name_of_methodNamed B.named B.method).1
  subst hsz
  have hD := hD0.self (sz := s.heap.size)
  have hA : ∀ q : Nat, s.heap.size ≤ q → va_A ws s.heap.size q := fun q h => Or.inr h
  have hl := lv_entry av (n := M.2.2.1) hL
  rw [lg_entry_eq]
  refine h p l e _ s m av.toArray below meth c (va_A ws s.heap.size) kc ks _ 0 0 s.heap [] _ ⟨hx, hb, hml, hown, fun w hw => hts w (List.mem_cons_of_mem _ hw), hAm, hA, ⟨Nat.le_refl _, Nat.le_refl _, Nat.le_refl _, Nat.le_refl _⟩, hnm⟩ ⟨?_, ?_⟩ (by omega) (by omega) hP hD va_S.rf hl
  · intro w H locs pc ls cells slots hp hn hc1 hc2 hP2 hD2 hS2 hdg
    refine W.widen hc1 hc2 ?_
    exact W.vret hx hb (hr.trans hn) (fun t ht hW => ⟨⟨none, w, rfl, hp, by rw [ht]; exact hP2, hD2⟩, hS2.F ht⟩) hS2.2.2 hdg
  · intro r ty w H locs pc ls cells slots hp hn hnar hc1 hc2 hP2 hD2 hS2 hdg
    refine W.widen hc1 hc2 ?_
    exact W.zret hx hb (hr.trans hn) hnar (fun t ht hW => ⟨⟨some (.int r), w, rfl, hp, by rw [ht]; exact hP2, hD2⟩, hS2.F ht⟩) hS2.2.2 hdg
/-- what a call gives: a run of the callee over its part of the world -/
def CALL (E : Ev) (M : Mt) (d pc : Nat) (st0 st : List Value) (kc ks : Nat) (wc : va_W) (post : Option Value → va_W → Prop) : Prop :=
  ∀ (p : Program) (l : Launch) (e : Env) (R : Room) (s : State) (m : MethodId) (args : Array Value) (below : List Frame) (meth : Method) (c : Code) (A : Nat → Prop) (mc ms : Nat) (cells slots : Nat) (H : Heap) (locs : List Loc) (ls : Array Slot),
    Cx E M d mc ms p R s m args meth c A → cells + kc ≤ mc → slots + ks ≤ ms → va_P (eD E) vwCl wc H → va_D (fun _ => True) wc → Amb E (va_A wc H.size) s H → ls.size = M.2.2.1 →
    ∃ a : Array Value, va_Run p l e R s m args below meth c H locs cells slots kc ks (F0 m pc ls st0) st (Qx E wc H.size post a) (va_A wc H.size)
/-- links: a virtual call, a static one, a constructor's; the last two of a nest mate -/
def LkV (own : String) (idx n : Nat) (M : Mt) : Prop := (∀ w ∈ [Cond.methodLink own idx M.1, .instanceMethod M.1, .selects M.1.cls M.1 M.1, .initialized M.1.cls, .code M.1 M.2.1 M.2.2.1 M.2.2.2], w ∈ gW) ∧ plainName M.1.cls = true ∧ M.1.cls ≠ "java/lang/invoke/MethodHandle" ∧ M.1.cls ≠ "java/lang/invoke/VarHandle" ∧ (parseMethodDescriptor M.1.desc).map (fun d => d.parameters.length) = some n
def LkS (own : String) (idx n : Nat) (M : Mt) : Prop := (∀ w ∈ [Cond.methodLink own idx M.1, .static M.1, .initialized M.1.cls, .code M.1 M.2.1 M.2.2.1 M.2.2.2], w ∈ gW) ∧ plainName M.1.cls = true ∧ M.1.cls ≠ "java/lang/invoke/MethodHandle" ∧ M.1.cls ≠ "java/lang/invoke/VarHandle" ∧ (parseMethodDescriptor M.1.desc).map (fun d => d.parameters.length) = some n
def LkI (own : String) (idx n : Nat) (M : Mt) : Prop := (∀ w ∈ [Cond.methodLink own idx M.1, .instanceMethod M.1, .initialized M.1.cls, .code M.1 M.2.1 M.2.2.1 none], w ∈ gW) ∧ M.2.2.2 = none ∧ M.1.name = "<init>" ∧ plainName M.1.cls = true ∧ M.1.cls ≠ "java/lang/invoke/MethodHandle" ∧ M.1.cls ≠ "java/lang/invoke/VarHandle" ∧ (parseMethodDescriptor M.1.desc).map (fun d => d.parameters.length) = some n
def LkSN (own : String) (idx n : Nat) (M : Mt) : Prop := (∀ w ∈ [Cond.static M.1, .initialized M.1.cls, .code M.1 M.2.1 M.2.2.1 M.2.2.2], w ∈ gW) ∧ (own, idx, M.1, RX6) ∈ nestM ∧ plainName M.1.cls = true ∧ M.1.cls ≠ "java/lang/invoke/MethodHandle" ∧ M.1.cls ≠ "java/lang/invoke/VarHandle" ∧ (parseMethodDescriptor M.1.desc).map (fun d => d.parameters.length) = some n
def LkIN (own : String) (idx n : Nat) (M : Mt) : Prop := (∀ w ∈ [Cond.instanceMethod M.1, .initialized M.1.cls, .code M.1 M.2.1 M.2.2.1 none], w ∈ gW) ∧ (own, idx, M.1, RX6) ∈ nestM ∧ M.2.2.2 = none ∧ M.1.name = "<init>" ∧ plainName M.1.cls = true ∧ M.1.cls ≠ "java/lang/invoke/MethodHandle" ∧ M.1.cls ≠ "java/lang/invoke/VarHandle" ∧ (parseMethodDescriptor M.1.desc).map (fun d => d.parameters.length) = some n
theorem cd_good {M : Mt} (h : Cond.code M.1 M.2.1 M.2.2.1 M.2.2.2 ∈ gW) : GoodIn gW (cdW M) := by
  intro w hw
  rcases List.mem_cons.mp hw with rfl | hw
  · exact ⟨h, gW_good _ h⟩
  · exact ⟨hw, gW_good w hw⟩
section CALLS
variable {E : Ev} {M M' : Mt} {d d' pc kc ks idx n : Nat} {av st : List Value} {wc : va_W} {post : Option Value → va_W → Prop}
set_option maxHeartbeats 4000000 in
theorem call_V {b q0 ci : Nat} {fs : List Value} {r : vw_C} (L : LkV M.1.cls idx n M') (h : SP E M' d' kc ks (.ref b :: av) wc post) (hq : wc[q0]? = some (b, .inr (ci, fs))) (hc : vwCl[ci]? = some r) (hr : r.1 = M'.1.cls) (hn : av.length = n) (hd : d' + 1 ≤ d) (hm : M'.2.2.1 ≤ 20) (hL : (lg_sl (.ref b :: av)).length ≤ M'.2.2.1) (hcat : (st.map fun v => v.category).sum ≤ 8)
    (hdg : decode M.2.1 pc = .ok (.invokevirtual idx, 3)) : CALL E M d pc (av.reverse ++ .ref b :: st) st kc ks wc post := by
  intro p l e R s m args below meth c A mc ms cells slots H locs ls hC hk hs hP hD hAm hls
  obtain ⟨Lw, Lp, L1, L2, L3⟩ := L
  obtain ⟨hx, hb, hml, hown, hts, -, -, ⟨hfr, hlo, hmc, hms⟩, -⟩ := hC
  have hG : GoodIn gW (wsV M.1.cls idx M'.1.cls M'.1 (cdW M')) := by
    intro w hw
    rcases List.mem_append.mp hw with h2 | h2
    · have h3 : w ∈ gW := Lw w (by simp only [List.mem_cons, List.not_mem_nil, or_false] at h2 ⊢; rcases h2 with rfl | rfl | rfl | rfl <;> simp)
      exact ⟨h3, gW_good w h3⟩
    · exact cd_good (Lw _ (by simp)) w h2
  refine ⟨_, va_runV (As := av) (rest := st) (C := M'.1.cls) (index := idx) (n := n) ⟨hx, hb, hml, hown, hts⟩ (SP.met l H.size Lp hL h) (cwV n hts hG rfl rfl rfl ⟨rfl, L1, L2, L3⟩ ⟨?_, ?_⟩) ⟨Bx.blind, ?_, fun U hU hW => ⟨rfl, by rw [hU], by rw [hU]; exact hP, hD, by rw [hU]; exact hAm.warm hW⟩⟩ rfl hn hls rfl (lv_room hcat) hdg ⟨?_, ?_⟩⟩
  · show d' + 1 ≤ R.frames
    omega
  · show 8 + (M'.2.2.1 + 11) + 40 * d' ≤ R.locals
    omega
  · rw [← hr]
    exact va_recv hAm.1.1 hP (ci := ci) (q0 := q0) hc hq
  · omega
  · omega
set_option maxHeartbeats 4000000 in
theorem call_S (L : LkS M.1.cls idx n M') (h : SP E M' d' kc ks av wc post) (hn : av.length = n) (hd : d' + 1 ≤ d) (hm : M'.2.2.1 ≤ 20) (hL : (lg_sl av).length ≤ M'.2.2.1) (hcat : (st.map fun v => v.category).sum ≤ 8)
    (hdg : decode M.2.1 pc = .ok (.invokestatic idx, 3)) : CALL E M d pc (av.reverse ++ st) st kc ks wc post := by
  intro p l e R s m args below meth c A mc ms cells slots H locs ls hC hk hs hP hD hAm hls
  obtain ⟨Lw, Lp, L1, L2, L3⟩ := L
  obtain ⟨hx, hb, hml, hown, hts, -, -, ⟨hfr, hlo, hmc, hms⟩, -⟩ := hC
  refine ⟨_, va_runS (As := av) (rest := st) (index := idx) (n := n) ⟨hx, hb, hml, hown, hts⟩ (SP.met l H.size Lp hL h) ⟨callB_of n hts (cd_good (Lw _ (by simp))) rfl rfl rfl (hts _ (Lw _ (by simp))) (hts _ (Lw _ (by simp))) ⟨L1, L2, L3⟩ ⟨?_, ?_⟩, hts _ (Lw _ (by simp))⟩ ⟨Bx.blind, fun U hU hW => ⟨rfl, by rw [hU], by rw [hU]; exact hP, hD, by rw [hU]; exact hAm.warm hW⟩⟩ rfl hn hls rfl (lv_room hcat) hdg ⟨?_, ?_⟩⟩
  · show d' + 1 ≤ R.frames
    omega
  · show 8 + (M'.2.2.1 + 11) + 40 * d' ≤ R.locals
    omega
  · omega
  · omega
set_option maxHeartbeats 4000000 in
theorem call_SN (L : LkSN M.1.cls idx n M') (h : SP E M' d' kc ks av wc post) (hn : av.length = n) (hd : d' + 1 ≤ d) (hm : M'.2.2.1 ≤ 20) (hL : (lg_sl av).length ≤ M'.2.2.1) (hcat : (st.map fun v => v.category).sum ≤ 8)
    (hdg : decode M.2.1 pc = .ok (.invokestatic idx, 3)) : CALL E M d pc (av.reverse ++ st) st kc ks wc post := by
  intro p l e R s m args below meth c A mc ms cells slots H locs ls hC hk hs hP hD hAm hls
  obtain ⟨Lw, Ln, Lp, L1, L2, L3⟩ := L
  obtain ⟨hx, hb, hml, hown, hts, -, -, ⟨hfr, hlo, hmc, hms⟩, -⟩ := hC
  refine ⟨_, va_runSN (As := av) (rest := st) (index := idx) (n := n) (host := RX6) ⟨hx, hb, hml, hown, hts⟩ (SP.met l H.size Lp hL h) ⟨va_cnB n hts (cd_good (Lw _ (by simp))) rfl rfl rfl (hAm.2.1.1 _ Ln) (hts _ (Lw _ (by simp))) ⟨L1, L2, L3⟩ ⟨?_, ?_⟩, hts _ (Lw _ (by simp)), trivial⟩ ⟨Bx.blind, fun U hU hW => ⟨rfl, by rw [hU], by rw [hU]; exact hP, hD, by rw [hU]; exact hAm.warm hW⟩⟩ rfl hn hls rfl (lv_room hcat) hdg ⟨?_, ?_⟩⟩
  · show d' + 1 ≤ R.frames
    omega
  · show 8 + (M'.2.2.1 + 11) + 40 * d' ≤ R.locals
    omega
  · omega
  · omega
set_option maxHeartbeats 4000000 in
theorem call_I {b : Nat} (L : LkI M.1.cls idx n M') (h : SP E M' d' kc ks (.ref b :: av) wc post) (hn : av.length = n) (hd : d' + 1 ≤ d) (hm : M'.2.2.1 ≤ 20) (hL : (lg_sl (.ref b :: av)).length ≤ M'.2.2.1) (hcat : (st.map fun v => v.category).sum ≤ 8)
    (hdg : decode M.2.1 pc = .ok (.invokespecial idx, 3)) : CALL E M d pc (av.reverse ++ .ref b :: st) st kc ks wc post := by
  intro p l e R s m args below meth c A mc ms cells slots H locs ls hC hk hs hP hD hAm hls
  obtain ⟨Lw, Lr, Li, Lp, L1, L2, L3⟩ := L
  obtain ⟨y', c', n', r'⟩ := M'
  dsimp only at Lw Lr Li Lp L1 L2 L3 h hm hL
  subst Lr
  obtain ⟨hx, hb, hml, hown, hts, -, -, ⟨hfr, hlo, hmc, hms⟩, -⟩ := hC
  refine ⟨_, va_runI (As := av) (rest := st) (index := idx) (n := n) ⟨hx, hb, hml, hown, hts⟩ (SP.met l H.size Lp hL h) (cwI n hts (cd_good (M := (y', c', n', none)) (Lw _ (by simp))) rfl rfl rfl (hts _ (Lw _ (by simp))) (hts _ (Lw _ (by simp))) (hts _ (Lw _ (by simp))) Li ⟨L1, L2, L3⟩ ⟨?_, ?_⟩) ⟨Bx.blind, fun U hU hW => ⟨rfl, by rw [hU], by rw [hU]; exact hP, hD, by rw [hU]; exact hAm.warm hW⟩⟩ rfl hn hls rfl (lv_room hcat) hdg ⟨?_, ?_⟩⟩
  · show d' + 1 ≤ R.frames
    omega
  · show 8 + (n' + 11) + 40 * d' ≤ R.locals
    omega
  · omega
  · omega
set_option maxHeartbeats 4000000 in
theorem call_IN {b : Nat} (L : LkIN M.1.cls idx n M') (h : SP E M' d' kc ks (.ref b :: av) wc post) (hn : av.length = n) (hd : d' + 1 ≤ d) (hm : M'.2.2.1 ≤ 20) (hL : (lg_sl (.ref b :: av)).length ≤ M'.2.2.1) (hcat : (st.map fun v => v.category).sum ≤ 8)
    (hdg : decode M.2.1 pc = .ok (.invokespecial idx, 3)) : CALL E M d pc (av.reverse ++ .ref b :: st) st kc ks wc post := by
  intro p l e R s m args below meth c A mc ms cells slots H locs ls hC hk hs hP hD hAm hls
  obtain ⟨Lw, Ln, Lr, Li, Lp, L1, L2, L3⟩ := L
  obtain ⟨y', c', n', r'⟩ := M'
  dsimp only at Lw Ln Lr Li Lp L1 L2 L3 h hm hL
  subst Lr
  obtain ⟨hx, hb, hml, hown, hts, -, -, ⟨hfr, hlo, hmc, hms⟩, -⟩ := hC
  refine ⟨_, va_runIN (As := av) (rest := st) (index := idx) (n := n) (host := RX6) ⟨hx, hb, hml, hown, hts⟩ (SP.met l H.size Lp hL h) ⟨va_cnB n hts (cd_good (M := (y', c', n', none)) (Lw _ (by simp))) rfl rfl rfl (hAm.2.1.1 _ Ln) (hts _ (Lw _ (by simp))) ⟨L1, L2, L3⟩ ⟨?_, ?_⟩, Li, hts _ (Lw _ (by simp))⟩ ⟨Bx.blind, fun U hU hW => ⟨rfl, by rw [hU], by rw [hU]; exact hP, hD, by rw [hU]; exact hAm.warm hW⟩⟩ rfl hn hls rfl (lv_room hcat) hdg ⟨?_, ?_⟩⟩
  · show d' + 1 ≤ R.frames
    omega
  · show 8 + (n' + 11) + 40 * d' ≤ R.locals
    omega
  · omega
  · omega
end CALLS
section GOES
variable {E : Ev} {M : Mt} {d pc kc ks kc2 ks2 : Nat} {lv : List (Nat × Value)} {st st0 : List Value} {ws ws2 wc wr w0 : va_W} {post postC : Option Value → va_W → Prop}
set_option maxHeartbeats 4000000 in
/-- a call, whatever it answers -/
theorem rr_call (C : CALL E M d pc st0 st kc2 ks2 wc postC) (isC isR : List Nat) (hC : isC.map (fun i => ws[i]?) = wc.map some) (hnC : va_nd isC = true) (hR : isR.map (fun i => ws[i]?) = wr.map some) (hnR : va_nd isR = true) (hdis : isR.all (fun i => !(isC.contains i)) = true) (h1 : kc2 ≤ kc) (h2 : ks2 ≤ ks)
    (K : ∀ (v : Option Value) (w1 : va_W), postC v w1 → RR E M d (kc - kc2) (ks - ks2) (pc + 3) lv (v.toList ++ st) (wr ++ w1) post) : RR E M d kc ks pc lv st0 ws post := by
  intro p l e R s m args below meth c A mc ms Q cells slots H locs ls hCx hF hk hs hP hD hS hl
  have hdis2 : ∀ i ∈ isR, i ∉ isC := by
    intro i hi h
    have h3 := List.all_eq_true.mp hdis i hi
    simp [h] at h3
  have hC2 : isC.filterMap (fun i => ws[i]?) = wc := by
    have e : isC.filterMap (fun i => ws[i]?) = (isC.map (fun i => ws[i]?)).filterMap id := by rw [List.filterMap_map]; rfl
    rw [e, hC, List.filterMap_map]
    simp
  have hPc := hP.sub isC hC2
  have hDc := hD.sub isC hnC hC
  have hFc := va_free (wc := wc) hD hS hCx.2.2.2.2.2.2.1 isC hC
  have hAm : Amb E (va_A wc H.size) s H := (hCx.2.2.2.2.2.1.kept hS.1 hS.2.1).narrow hFc
  obtain ⟨a0, hrun⟩ := C p l e R s m args below meth c A mc ms cells slots H locs ls hCx (by omega) (by omega) hPc (hDc.weaken (fun _ _ _ _ => trivial)) hAm hl.1
  intro T hT X
  obtain ⟨v, st₀, t, T', L, h0, X', hL, e1, e2, ⟨⟨v2, w1, hv, hp, hP1, hD1⟩, hz, hkk⟩, hst⟩ := hrun T hT X
  cases hv
  rw [h0] at hz hkk
  have hk1 : ∀ q : Nat, q < H.size → ¬ va_A wc H.size q → T'.heap[q]? = H[q]? := fun q h3 h4 => by rw [e1]; exact hkk q h3 h4
  obtain ⟨hP2, hD2⟩ := va_join (wr := wr) (w1 := w1) hP hD isC isR hC hR hnR hdis2 hk1 hFc (by rw [e1]; exact hP1) hD1
  have hS2 : va_S A s.heap T'.heap (locs ++ L) := ⟨Nat.le_trans hS.1 (by rw [e1]; exact hz), fun q h3 h4 => by rw [hk1 q (Nat.lt_of_lt_of_le h3 hS.1) (fun z => h4 (hFc q z))]; exact hS.2.1 q h3 h4, fun q hq => by
    rcases List.mem_append.mp hq with h5 | h5
    · exact hS.2.2 q h5
    · exact hFc _ (hL q h5)⟩
  obtain ⟨t2, a1, b1⟩ := K v w1 hp p l e R s m args below meth c A mc ms Q (cells + kc2) (slots + ks2) T'.heap (locs ++ L) ls hCx hF (by omega) (by omega) hP2 hD2 hS2 hl T' rfl X'
  exact ⟨t2, hst t2 a1, b1⟩
theorem perm_of {ws ws2 : va_W} {ps : List Nat} (h : ps.map (fun i => ws[i]?) = ws2.map some) : ps.filterMap (fun i => ws[i]?) = ws2 := by
  have e : ps.filterMap (fun i => ws[i]?) = (ps.map (fun i => ws[i]?)).filterMap id := by rw [List.filterMap_map]; rfl
  rw [e, h, List.filterMap_map]
  simp
/-- a call whose answer is an int that is told -/
theorem rr_callFi {r : Int32} (C : CALL E M d pc st0 st 0 0 wc (FP (some (.int r)) w0)) (isC isR isF : List Nat) (hC : isC.map (fun i => ws[i]?) = wc.map some) (hnC : va_nd isC = true) (hR : isR.map (fun i => ws[i]?) = wr.map some) (hnR : va_nd isR = true) (hdis : isR.all (fun i => !(isC.contains i)) = true) (hF : isF.map (fun i => (wr ++ w0)[i]?) = ws2.map some) (hnF : va_nd isF = true)
    (K : RR E M d kc ks (pc + 3) lv (.int r :: st) ws2 post) : RR E M d kc ks pc lv st0 ws post :=
  rr_call C isC isR hC hnC hR hnR hdis (Nat.zero_le _) (Nat.zero_le _) (fun v w1 hp => by
    obtain ⟨rfl, rfl⟩ := hp
    exact RR.ws isF hnF hF K)
/-- a call without an answer, its world told -/
theorem rr_callFv (C : CALL E M d pc st0 st 0 0 wc (FP none w0)) (isC isR isF : List Nat) (hC : isC.map (fun i => ws[i]?) = wc.map some) (hnC : va_nd isC = true) (hR : isR.map (fun i => ws[i]?) = wr.map some) (hnR : va_nd isR = true) (hdis : isR.all (fun i => !(isC.contains i)) = true) (hF : isF.map (fun i => (wr ++ w0)[i]?) = ws2.map some) (hnF : va_nd isF = true)
    (K : RR E M d kc ks (pc + 3) lv st ws2 post) : RR E M d kc ks pc lv st0 ws post :=
  rr_call C isC isR hC hnC hR hnR hdis (Nat.zero_le _) (Nat.zero_le _) (fun v w1 hp => by
    obtain ⟨rfl, rfl⟩ := hp
    exact RR.ws isF hnF hF K)
/-- a call that changes nothing -/
theorem rr_callRi {r : Int32} (C : CALL E M d pc st0 st 0 0 wc (FP (some (.int r)) wc)) (isC isR : List Nat) (hC : isC.map (fun i => ws[i]?) = wc.map some) (hnC : va_nd isC = true) (hR : isR.map (fun i => ws[i]?) = wr.map some) (hnR : va_nd isR = true) (hdis : isR.all (fun i => !(isC.contains i)) = true) (isF : List Nat) (hF : isF.map (fun i => (wr ++ wc)[i]?) = ws.map some) (hnF : va_nd isF = true)
    (K : RR E M d kc ks (pc + 3) lv (.int r :: st) ws post) : RR E M d kc ks pc lv st0 ws post :=
  rr_callFi C isC isR isF hC hnC hR hnR hdis hF hnF K
end GOES
