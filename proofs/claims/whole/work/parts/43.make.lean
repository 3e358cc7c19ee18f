theorem nL_7 : Nok RL 7 6 10 [.null, .null, .null, .null, .null, .null, .null, .null, .null, .null] := ⟨_, _, tyX6, rfl, gI_6, tyX6_ok, gW_ins [57, 58, 44] (by decide +kernel) (by decide +kernel), fun j hj => by rcases (show j = 0 ∨ j = 1 ∨ j = 2 ∨ j = 3 ∨ j = 4 ∨ j = 5 ∨ j = 6 ∨ j = 7 ∨ j = 8 ∨ j = 9 by omega) with rfl | rfl | rfl | rfl | rfl | rfl | rfl | rfl | rfl | rfl <;> rfl⟩
theorem nX6_7 : Nok RX6 7 3 4 [.null, .null, .int (zz 0), .int (zz 0)] := ⟨_, _, tyX3, rfl, gI_3, tyX3_ok, gW_ins [65, 66, 45] (by decide +kernel) (by decide +kernel), fun j hj => by rcases (show j = 0 ∨ j = 1 ∨ j = 2 ∨ j = 3 by omega) with rfl | rfl | rfl | rfl <;> rfl⟩
theorem nX6_16 : Nok RX6 16 2 9 [.null, .null, .null, .null, .null, .null, .null, .int (zz 0), .int (zz 0)] := ⟨_, _, tyX2, rfl, gI_2, tyX2_ok, gW_ins [87, 88, 46] (by decide +kernel) (by decide +kernel), fun j hj => by rcases (show j = 0 ∨ j = 1 ∨ j = 2 ∨ j = 3 ∨ j = 4 ∨ j = 5 ∨ j = 6 ∨ j = 7 ∨ j = 8 by omega) with rfl | rfl | rfl | rfl | rfl | rfl | rfl | rfl | rfl <;> rfl⟩
theorem nX2_30 : Nok RX2 30 0 7 [.int (zz 0), .int (zz 0), .int (zz 0), .int (zz 0), .int (zz 0), .int (zz 0), .int (zz 0)] := ⟨_, _, tyX0, rfl, gI_0, tyX0_ok, gW_ins [93, 94, 47] (by decide +kernel) (by decide +kernel), fun j hj => by rcases (show j = 0 ∨ j = 1 ∨ j = 2 ∨ j = 3 ∨ j = 4 ∨ j = 5 ∨ j = 6 by omega) with rfl | rfl | rfl | rfl | rfl | rfl | rfl <;> rfl⟩
theorem nX6_26 : Nok RX6 26 0 7 [.int (zz 0), .int (zz 0), .int (zz 0), .int (zz 0), .int (zz 0), .int (zz 0), .int (zz 0)] := ⟨_, _, tyX0, rfl, gI_0, tyX0_ok, gW_ins [181, 94, 47] (by decide +kernel) (by decide +kernel), fun j hj => by rcases (show j = 0 ∨ j = 1 ∨ j = 2 ∨ j = 3 ∨ j = 4 ∨ j = 5 ∨ j = 6 by omega) with rfl | rfl | rfl | rfl | rfl | rfl | rfl <;> rfl⟩
theorem nX6_39 : Nok RX6 39 4 2 [.null, .int (zz 0)] := ⟨_, _, tyX4, rfl, gI_4, tyX4_ok, gW_ins [183, 184, 48] (by decide +kernel) (by decide +kernel), fun j hj => by rcases (show j = 0 ∨ j = 1 by omega) with rfl | rfl <;> rfl⟩
theorem nX4_13 : Nok RX4 13 0 7 [.int (zz 0), .int (zz 0), .int (zz 0), .int (zz 0), .int (zz 0), .int (zz 0), .int (zz 0)] := ⟨_, _, tyX0, rfl, gI_0, tyX0_ok, gW_ins [192, 94, 47] (by decide +kernel) (by decide +kernel), fun j hj => by rcases (show j = 0 ∨ j = 1 ∨ j = 2 ∨ j = 3 ∨ j = 4 ∨ j = 5 ∨ j = 6 by omega) with rfl | rfl | rfl | rfl | rfl | rfl | rfl <;> rfl⟩
theorem nX6_51 : Nok RX6 51 5 4 [.null, .null, .null, .int (zz 0)] := ⟨_, _, tyX5, rfl, gI_5, tyX5_ok, gW_ins [203, 204, 50] (by decide +kernel) (by decide +kernel), fun j hj => by rcases (show j = 0 ∨ j = 1 ∨ j = 2 ∨ j = 3 by omega) with rfl | rfl | rfl | rfl <;> rfl⟩
theorem nX6_58 : Nok RX6 58 1 6 [.null, .null, .null, .null, .int (zz 0), .int (zz 0)] := ⟨_, _, tyX1, rfl, gI_1, tyX1_ok, gW_ins [223, 224, 51] (by decide +kernel) (by decide +kernel), fun j hj => by rcases (show j = 0 ∨ j = 1 ∨ j = 2 ∨ j = 3 ∨ j = 4 ∨ j = 5 by omega) with rfl | rfl | rfl | rfl | rfl | rfl <;> rfl⟩
theorem nX1_9 : Nok RX1 9 0 7 [.int (zz 0), .int (zz 0), .int (zz 0), .int (zz 0), .int (zz 0), .int (zz 0), .int (zz 0)] := ⟨_, _, tyX0, rfl, gI_0, tyX0_ok, gW_ins [229, 94, 47] (by decide +kernel) (by decide +kernel), fun j hj => by rcases (show j = 0 ∨ j = 1 ∨ j = 2 ∨ j = 3 ∨ j = 4 ∨ j = 5 ∨ j = 6 by omega) with rfl | rfl | rfl | rfl | rfl | rfl | rfl <;> rfl⟩
theorem nL_10 : Nok RL 10 7 28 [.int (zz 0), .null, .null, .int (zz 0), .null, .null, .null, .int (zz 0), .null, .int (zz 0), .null, .int (zz 0), .null, .null, .int (zz 0), .int (zz 0), .null, .int (zz 0), .null, .null, .int (zz 0), .null, .null, .null, .null, .null, .int (zz 0), .null] := ⟨_, _, tyX7, rfl, gI_7, tyX7_ok, gW_ins [684, 685, 56] (by decide +kernel) (by decide +kernel), fun j hj => by rcases (show j = 0 ∨ j = 1 ∨ j = 2 ∨ j = 3 ∨ j = 4 ∨ j = 5 ∨ j = 6 ∨ j = 7 ∨ j = 8 ∨ j = 9 ∨ j = 10 ∨ j = 11 ∨ j = 12 ∨ j = 13 ∨ j = 14 ∨ j = 15 ∨ j = 16 ∨ j = 17 ∨ j = 18 ∨ j = 19 ∨ j = 20 ∨ j = 21 ∨ j = 22 ∨ j = 23 ∨ j = 24 ∨ j = 25 ∨ j = 26 ∨ j = 27 by omega) with rfl | rfl | rfl | rfl | rfl | rfl | rfl | rfl | rfl | rfl | rfl | rfl | rfl | rfl | rfl | rfl | rfl | rfl | rfl | rfl | rfl | rfl | rfl | rfl | rfl | rfl | rfl | rfl <;> rfl⟩
theorem ac_int : Cond.arrayClass .int ∈ gW := gW_in 86 (by decide +kernel) rfl
theorem ac_char : Cond.arrayClass .char ∈ gW := gW_in 85 (by decide +kernel) rfl
theorem mmX4 : ∀ w ∈ [Cond.methodLink RX4 7 Lib.Math.max.name, .static Lib.Math.max.name, .initialized "java/lang/Math", .code Lib.Math.max.name Lib.Math.max.code 2 (some .int)], w ∈ gW := gW_ins [189, 190, 49, 191] (by decide +kernel) (by decide +kernel)
theorem clX4_13 : Cond.classLink RX4 13 "EbonyPegs$Horse" ∈ gW := gW_in 192 (by decide +kernel) rfl
theorem sf9 : Cond.fieldLink RJ0 9 "java/lang/String" "value" "[B" ∈ gW := gW_in 1031 (by decide +kernel) rfl
theorem sf15 : Cond.fieldLink RJ0 15 "java/lang/String" "coder" "B" ∈ gW := gW_in 1032 (by decide +kernel) rfl
theorem sf38 : Cond.fieldLink RJ0 38 "java/lang/String" "COMPACT_STRINGS" "Z" ∈ gW := gW_in 260 (by decide +kernel) rfl
theorem sf1053 : Cond.fieldLink RJ0 1053 "jdk/internal/util/Preconditions" "SIOOBE_FORMATTER" "Ljava/util/function/BiFunction;" ∈ gW := gW_in 276 (by decide +kernel) rfl
section MAKE
variable {E : Ev} {M : Mt} {d kc ks pc : Nat} {lv : List (Nat × Value)} {st : List Value} {ws : va_W} {post : Option Value → va_W → Prop}
theorem rr_new {idx ci N : Nat} {fs : List Value} (F : Nok M.1.cls idx ci N fs) (h1 : 1 ≤ kc) (h2 : N ≤ ks) (hd : decode M.2.1 pc = .ok (.new idx, 3)) (K : ∀ q : Nat, RR E M d (kc - 1) (ks - N) (pc + 3) lv (.ref q :: st) (ws ++ [(q, ob ci fs)]) post) : RR E M d kc ks pc lv st ws post := by
  intro p l e R s m args below meth c A mc ms Q cells slots H locs ls hC hF hk hs hP hD hS hl
  obtain ⟨C, T, ty0, f1, f2, f3, f4, f5⟩ := F
  have hr := hC.2.2.2.2.2.2.2.1
  exact va_new (D := eD E) (tys := eTys E) (ci := ci) (fs := fs) (C := C) (T := T) (N := N) hC.1 hC.2.1 hC.2.2.2.2.1 f2 ty0 f3 hC.2.2.2.1 (hC.2.2.2.2.1 _ (f4 _ (by simp))) (hC.2.2.2.2.1 _ (f4 _ (by simp))) (hC.2.2.2.2.1 _ (f4 _ (by simp))) hC.2.2.2.2.2.1.1.1 hP hD hS hC.2.2.2.2.2.2.1 f1 f5 (by omega) (by omega) hd (fun q H1 hP1 hD1 hS1 => K q _ _ _ _ _ _ _ _ _ _ _ _ _ _ _ _ _ _ _ hC hF (by omega) (by omega) hP1 hD1 hS1 hl)
theorem zz_nn (N : Nat) (h : N < 100000000) : ¬ zz (N : Int) < 0 := fun z => by
  have := (zz_lt (a := (N : Int)) (b := 0) (by omega) (by omega)).mp z
  omega
theorem rr_newI {n : Int} (N : Nat) (hn : n = (N : Int)) (hN : N < 100000000) (h1 : 1 ≤ kc) (h2 : N ≤ ks) (hd : decode M.2.1 pc = .ok (.newarray .int, 2)) (K : ∀ q : Nat, RR E M d (kc - 1) (ks - N) (pc + 2) lv (.ref q :: st) (ws ++ [(q, aI E N (fun _ => 0))]) post) : RR E M d kc ks pc lv (.int (zz n) :: st) ws post := by
  intro p l e R s m args below meth c A mc ms Q cells slots H locs ls hC hF hk hs hP hD hS hl
  subst hn
  have hr := hC.2.2.2.2.2.2.2.1
  refine va_newa (atype := .int) (D := eD E) (tys := eTys E) (a0 := (N, .inl (fun _ => zz 0))) (ty := .int) hC.1 hC.2.1 (hC.2.2.2.2.1 _ ac_int) rfl hC.2.2.2.2.2.1.1.1 hP hD hS hC.2.2.2.2.2.2.1 (fun cA => rfl) (zz_nn N hN) (zz_clamp (n := N + 1) (by omega) (by omega)) (by show N * 4 ≤ 536870912; omega) (by omega) (by omega) hd (fun q cA H1 hK1 hP1 hD1 hS1 => ?_)
  have e1 : cA = eI E := Option.some.inj ((va_nm_int (hK1.2 3 (cA, .int) rfl).2).symm.trans (va_nm_int (hC.2.2.2.2.2.1.1.1.2 0 (eI E, .int) rfl).2))
  subst e1
  exact K q _ _ _ _ _ _ _ _ _ _ _ _ _ _ _ _ _ _ _ hC hF (by omega) (by omega) hP1 hD1 hS1 hl
theorem rr_newC {n : Int} (N : Nat) (hn : n = (N : Int)) (hN : N < 100000000) (h1 : 1 ≤ kc) (h2 : N ≤ ks) (hd : decode M.2.1 pc = .ok (.newarray .char, 2)) (K : ∀ q : Nat, RR E M d (kc - 1) (ks - N) (pc + 2) lv (.ref q :: st) (ws ++ [(q, aC E N (fun _ => 0))]) post) : RR E M d kc ks pc lv (.int (zz n) :: st) ws post := by
  intro p l e R s m args below meth c A mc ms Q cells slots H locs ls hC hF hk hs hP hD hS hl
  subst hn
  have hr := hC.2.2.2.2.2.2.2.1
  refine va_newa (atype := .char) (D := eD E) (tys := eTys E) (a0 := (N, .inl (fun _ => zz 0))) (ty := .char) hC.1 hC.2.1 (hC.2.2.2.2.1 _ ac_char) rfl hC.2.2.2.2.2.1.1.1 hP hD hS hC.2.2.2.2.2.2.1 (fun cA => rfl) (zz_nn N hN) (zz_clamp (n := N + 1) (by omega) (by omega)) (by show N * 2 ≤ 536870912; omega) (by omega) (by omega) hd (fun q cA H1 hK1 hP1 hD1 hS1 => ?_)
  have e1 : cA = eC E := Option.some.inj ((va_nm_char (hK1.2 3 (cA, .char) rfl).2).symm.trans (va_nm_char (hC.2.2.2.2.2.1.1.1.2 1 (eC E, .char) rfl).2))
  subst e1
  exact K q _ _ _ _ _ _ _ _ _ _ _ _ _ _ _ _ _ _ _ hC hF (by omega) (by omega) hP1 hD1 hS1 hl
theorem rr_newH {idx : Nat} {n : Int} (N : Nat) (hw : Cond.classLink M.1.cls idx "EbonyPegs$Horse" ∈ gW) (hn : n = (N : Int)) (hN : N < 100000000) (h1 : 1 ≤ kc) (h2 : N ≤ ks) (hd : decode M.2.1 pc = .ok (.anewarray idx, 3)) (K : ∀ q : Nat, RR E M d (kc - 1) (ks - N) (pc + 3) lv (.ref q :: st) (ws ++ [(q, aH E N (fun _ => none))]) post) : RR E M d kc ks pc lv (.int (zz n) :: st) ws post := by
  intro p l e R s m args below meth c A mc ms Q cells slots H locs ls hC hF hk hs hP hD hS hl
  subst hn
  have hr := hC.2.2.2.2.2.2.2.1
  refine va_newq (D := eD E) (tys := eTys E) (C := "EbonyPegs$Horse") (N' := N) hC.1 hC.2.1 hC.2.2.2.1 (hC.2.2.2.2.1 _ hw) hC.2.2.2.2.2.1.1.2 hC.2.2.2.2.2.1.1.1 hP hD hS hC.2.2.2.2.2.2.1 (zz_nn N hN) (zz_clamp (n := N + 1) (by omega) (by omega)) (by omega) (by omega) (by omega) hd (fun q cA H1 hK1 hP1 hD1 hS1 => ?_)
  have e1 : cA = eH E := Option.some.inj ((va_nmO (hK1.2 3 (cA, .object "EbonyPegs$Horse") rfl).2 rfl).symm.trans (va_nmO (hC.2.2.2.2.2.1.1.1.2 2 (eH E, .object "EbonyPegs$Horse") rfl).2 rfl))
  subst e1
  exact K q _ _ _ _ _ _ _ _ _ _ _ _ _ _ _ _ _ _ _ hC hF (by omega) (by omega) hP1 hD1 hS1 hl
theorem rr_objI {idx a : Nat} (F : ∀ w ∈ [Cond.methodLink M.1.cls idx Lib.objectInit, .instanceMethod Lib.objectInit, .code Lib.objectInit ⟨#[0xb1]⟩ 1 none], w ∈ gW) (hd1 : 1 ≤ d) (hcat : (st.map fun v => v.category).sum ≤ 8) (hd : decode M.2.1 pc = .ok (.invokespecial idx, 3)) (K : RR E M d kc ks (pc + 3) lv st ws post) : RR E M d kc ks pc lv (.ref a :: st) ws post := by
  intro p l e R s m args below meth c A mc ms Q cells slots H locs ls hC hF hk hs hP hD hS hl
  have hr := hC.2.2.2.2.2.2.2.1
  exact W.objInit hC.1 hC.2.1 hC.2.2.2.1 (hC.2.2.2.2.1 _ (F _ (by simp))) (hC.2.2.2.2.1 _ (F _ (by simp))) (hC.2.2.2.2.1 _ (F _ (by simp))) (g := F0 m pc ls (.ref a :: st)) rfl (hl.1.trans hC.2.2.1.symm) rfl hd (by omega) (by show 2 * 0 + _ + 12 ≤ _; omega) (K _ _ _ _ _ _ _ _ _ _ _ _ _ _ _ _ _ _ _ hC hF hk hs hP hD hS hl)
theorem rr_max {idx : Nat} {a b r : Int} (F : ∀ w ∈ [Cond.methodLink M.1.cls idx Lib.Math.max.name, .static Lib.Math.max.name, .initialized "java/lang/Math", .code Lib.Math.max.name Lib.Math.max.code 2 (some .int)], w ∈ gW) (hd1 : 1 ≤ d) (hcat : (st.map fun v => v.category).sum ≤ 8) (hr0 : (if zz a < zz b then zz b else zz a) = zz r) (hd : decode M.2.1 pc = .ok (.invokestatic idx, 3)) (K : RR E M d kc ks (pc + 3) lv (.int (zz r) :: st) ws post) : RR E M d kc ks pc lv (.int (zz b) :: .int (zz a) :: st) ws post := by
  intro p l e R s m args below meth c A mc ms Q cells slots H locs ls hC hF hk hs hP hD hS hl
  have hr := hC.2.2.2.2.2.2.2.1
  refine va_mmax hC.1 hC.2.1 (hC.2.2.1.trans hl.1.symm) hC.2.2.2.1 (hC.2.2.2.2.1 _ (F _ (by simp))) (hC.2.2.2.2.1 _ (F _ (by simp))) (hC.2.2.2.2.1 _ (F _ (by simp))) (hC.2.2.2.2.1 _ (F _ (by simp))) (by omega) (by omega) (by omega) (by omega) hd ?_
  rw [hr0]
  exact K _ _ _ _ _ _ _ _ _ _ _ _ _ _ _ _ _ _ _ hC hF hk hs hP hD hS hl
/-- the text's constant -/
theorem rr_ldcS (hM : M.1.cls = RX6) (hd : decode M.2.1 pc = .ok (.ldc 67, 2)) (K : RR E M d kc ks (pc + 2) lv (.ref (eK E 0) :: st) ws post) : RR E M d kc ks pc lv st ws post := by
  intro p l e R s m args below meth c A mc ms Q cells slots H locs ls hC hF hk hs hP hD hS hl
  exact va_ldcS (own := RX6) hC.1 hC.2.1 (by rw [← hM]; exact hC.2.2.2.1) hC.2.2.2.2.2.1.2.2.2.2.2 hd (K _ _ _ _ _ _ _ _ _ _ _ _ _ _ _ _ _ _ _ hC hF hk hs hP hD hS hl)
theorem rr_sval (hM : M.1.cls = RJ0) (hd : decode M.2.1 pc = .ok (.getfield 9, 3)) (K : RR E M d kc ks (pc + 3) lv (.ref (eV E 0) :: st) ws post) : RR E M d kc ks pc lv (.ref (eK E 0) :: st) ws post := by
  intro p l e R s m args below meth c A mc ms Q cells slots H locs ls hC hF hk hs hP hD hS hl
  exact vk_getf (own := RJ0) (ref := "java/lang/String") hC.1 hC.2.1 (hC.2.2.2.2.2.1.2.2.2.1.1.1 0 (by omega)).2.2.1 hS (by rw [← hM]; exact hC.2.2.2.1) (hC.2.2.2.2.1 _ sf9) (fun _ h9 => h9) hd (K _ _ _ _ _ _ _ _ _ _ _ _ _ _ _ _ _ _ _ hC hF hk hs hP hD hS hl)
theorem rr_scod (hM : M.1.cls = RJ0) (hd : decode M.2.1 pc = .ok (.getfield 15, 3)) (K : RR E M d kc ks (pc + 3) lv (.int (zz 0) :: st) ws post) : RR E M d kc ks pc lv (.ref (eK E 0) :: st) ws post := by
  intro p l e R s m args below meth c A mc ms Q cells slots H locs ls hC hF hk hs hP hD hS hl
  exact vk_getf (own := RJ0) (ref := "java/lang/String") hC.1 hC.2.1 (hC.2.2.2.2.2.1.2.2.2.1.1.1 0 (by omega)).2.1 hS (by rw [← hM]; exact hC.2.2.2.1) (hC.2.2.2.2.1 _ sf15) (fun _ h9 => h9) hd (K _ _ _ _ _ _ _ _ _ _ _ _ _ _ _ _ _ _ _ hC hF hk hs hP hD hS hl)
theorem rr_scs (hM : M.1.cls = RJ0) (hd : decode M.2.1 pc = .ok (.getstatic 38, 3)) (K : RR E M d kc ks (pc + 3) lv (.int (zz 1) :: st) ws post) : RR E M d kc ks pc lv st ws post := by
  intro p l e R s m args below meth c A mc ms Q cells slots H locs ls hC hF hk hs hP hD hS hl
  exact va_gets (own := RJ0) (ref := "java/lang/String") hC.1 hC.2.1 hC.2.2.2.2.2.1.2.2.2.1.2.1 hS (by rw [← hM]; exact hC.2.2.2.1) (hC.2.2.2.2.1 _ sf38) (fun _ h9 => h9) hd (K _ _ _ _ _ _ _ _ _ _ _ _ _ _ _ _ _ _ _ hC hF hk hs hP hD hS hl)
theorem rr_sio (hM : M.1.cls = RJ0) (hd : decode M.2.1 pc = .ok (.getstatic 1053, 3)) (K0 : RR E M d kc ks (pc + 3) lv (.null :: st) ws post) (K : ∀ t : Nat, RR E M d kc ks (pc + 3) lv (.ref t :: st) ws post) : RR E M d kc ks pc lv st ws post := by
  intro p l e R s m args below meth c A mc ms Q cells slots H locs ls hC hF hk hs hP hD hS hl
  rcases hC.2.2.2.2.2.1.2.2.2.1.2.2 with hz | ⟨t, hz⟩
  · exact va_gets (own := RJ0) (ref := "jdk/internal/util/Preconditions") hC.1 hC.2.1 hz hS (by rw [← hM]; exact hC.2.2.2.1) (hC.2.2.2.2.1 _ sf1053) (fun _ h9 => h9) hd (K0 _ _ _ _ _ _ _ _ _ _ _ _ _ _ _ _ _ _ _ hC hF hk hs hP hD hS hl)
  · exact va_gets (own := RJ0) (ref := "jdk/internal/util/Preconditions") hC.1 hC.2.1 hz hS (by rw [← hM]; exact hC.2.2.2.1) (hC.2.2.2.2.1 _ sf1053) (fun _ h9 => h9) hd (K t _ _ _ _ _ _ _ _ _ _ _ _ _ _ _ _ _ _ _ hC hF hk hs hP hD hS hl)
theorem rr_blen (hd : decode M.2.1 pc = .ok (.arraylength, 1)) (K : RR E M d kc ks (pc + 1) lv (.int (zz 82) :: st) ws post) : RR E M d kc ks pc lv (.ref (eV E 0) :: st) ws post := by
  intro p l e R s m args below meth c A mc ms Q cells slots H locs ls hC hF hk hs hP hD hS hl
  exact va_tlen hC.1 hC.2.1 (hC.2.2.2.2.2.1.2.2.2.1.1.1 0 (by omega)).2.2.2 hS (v := zz 82) rfl hd (K _ _ _ _ _ _ _ _ _ _ _ _ _ _ _ _ _ _ _ hC hF hk hs hP hD hS hl)
def sB (k : Nat) : Int := (sBy.getD k 0).toInt
theorem sB_zz (k : Nat) : zz (sB k) = sBy.getD k 0 := Int32.ofInt_toInt _
theorem sB_rg : ∀ k, k < 82 → 32 ≤ sB k ∧ sB k ≤ 126 := by decide +kernel
theorem rr_bald {i : Int} (k : Nat) (hi : i = (k : Int)) (hk0 : k < 82) (hd : decode M.2.1 pc = .ok (.baload, 1)) (K : RR E M d kc ks (pc + 1) lv (.int (zz (sB k)) :: st) ws post) : RR E M d kc ks pc lv (.int (zz i) :: .ref (eV E 0) :: st) ws post := by
  intro p l e R s m args below meth c A mc ms Q cells slots H locs ls hC hF hk hs hP hD hS hl
  subst hi
  exact va_tb hC.1 hC.2.1 (hC.2.2.2.2.2.1.2.2.2.1.1.1 0 (by omega)).2.2.2 hS (zz_in (n := 82) hk0 (by omega)) (v := .int (zz (sB k))) (by rw [zz_clamp (n := 82) hk0 (by omega), sB_zz]; rfl) hd (K _ _ _ _ _ _ _ _ _ _ _ _ _ _ _ _ _ _ _ hC hF hk hs hP hD hS hl)
/-- a row of references by another that is the same below its length -/
theorem rr_aHx {a n : Nat} {f g : Nat → Option Nat} {ws2 : va_W} (q : Nat) (he : ws[q]? = some (a, aH E n f)) (hfg : ∀ j, j < n → f j = g j) (hw : ws.set q (a, aH E n g) = ws2) (K : RR E M d kc ks pc lv st ws2 post) : RR E M d kc ks pc lv st ws post := by
  intro p l e R s m args below meth c A mc ms Q cells slots H locs ls hC hF hk hs hP hD hS hl
  subst hw
  have h1 : va_at (eD E) vwCl (a, aH E n f) H := hP q _ he
  have h2 : va_at (eD E) vwCl (a, aH E n g) H := by
    show H[a]? = some (arrV (eH E) n (fun j => va_rf (g j)))
    have h3 : H[a]? = some (arrV (eH E) n (fun j => va_rf (f j))) := h1
    rw [h3]
    unfold arrV
    congr 2
    apply Array.ext
    · simp
    · intro i hi1 hi2
      simp only [Array.getElem_ofFn]
      rw [hfg i (by simpa using hi1)]
  exact K _ _ _ _ _ _ _ _ _ _ _ _ _ _ _ _ _ _ _ hC hF hk hs (hP.set hD he h2 (fun _ _ => rfl)) (hD.set he) hS hl
end MAKE
section CALLS2
variable {E : Ev} {M M' : Mt} {d d' pc kc ks idx n : Nat} {av st : List Value} {wc : va_W} {post : Option Value → va_W → Prop}
set_option maxHeartbeats 4000000 in
/-- a call of the constant's own methods -/
theorem call_VS (L : LkV M.1.cls idx n M') (h : SP E M' d' kc ks (.ref (eK E 0) :: av) wc post) (hr : M'.1.cls = "java/lang/String") (hn : av.length = n) (hd : d' + 1 ≤ d) (hm : M'.2.2.1 ≤ 20) (hL : (lg_sl (.ref (eK E 0) :: av)).length ≤ M'.2.2.1) (hcat : (st.map fun v => v.category).sum ≤ 8)
    (hdg : decode M.2.1 pc = .ok (.invokevirtual idx, 3)) : CALL E M d pc (av.reverse ++ .ref (eK E 0) :: st) st kc ks wc post := by
  intro p l e R s m args below meth c A mc ms cells slots H locs ls hC hk hs hP hD hAm hls
  obtain ⟨Lw, Lp, L1, L2, L3⟩ := L
  obtain ⟨hx, hb, hml, hown, hts, -, -, ⟨hfr, hlo, hmc, hms⟩, -⟩ := hC
  have hG : GoodIn gW (wsV M.1.cls idx M'.1.cls M'.1 (cdW M')) := by
    intro w hw
    rcases List.mem_append.mp hw with h2 | h2
    · have h3 : w ∈ gW := Lw w (by simp only [List.mem_cons, List.not_mem_nil, or_false] at h2 ⊢; rcases h2 with rfl | rfl | rfl | rfl <;> simp)
      exact ⟨h3, gW_good w h3⟩
    · exact cd_good (Lw _ (by simp)) w h2
  refine ⟨_, va_runV (As := av) (rest := st) (C := M'.1.cls) (index := idx) (n := n) ⟨hx, hb, hml, hown, hts⟩ (SP.met l H.size Lp hL h) (cwV n hts hG rfl rfl rfl ⟨rfl, L1, L2, L3⟩ ⟨?_, ?_⟩) ⟨Bx.blind, ?_, fun U hU hW => ⟨rfl, by rw [hU], by rw [hU]; exact hP, hD, by rw [hU]; exact hAm.warm hW⟩⟩ rfl hn hls rfl (lv_room hcat) hdg ⟨?_, ?_⟩⟩
  · show d' + 1 ≤ R.frames
    omega
  · show 8 + (M'.2.2.1 + 11) + 40 * d' ≤ R.locals
    omega
  · rw [hr]
    obtain ⟨cell, h1, h2, h3, -⟩ := (hAm.2.2.2.1.1.1 0 (by omega)).1
    exact ⟨cell, h1, h2, h3⟩
  · omega
  · omega
end CALLS2
