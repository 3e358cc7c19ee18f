theorem psF_bd {tx : Nat → Int} {len : Nat} : ∀ (f a : Nat) (t : Nat → Int) (P : PSt), P.1 ≤ 7 → P.2.2.2.2.2.1 ≤ 6 → (psF tx len f a t P).2.1 ≤ 7 ∧ (psF tx len f a t P).2.2.2.2.2.2.1 ≤ 6
  | 0, a, t, P, h1, h2 => ⟨h1, h2⟩
  | f + 1, a, t, P, h1, h2 => by
    rw [psF]
    split
    · cases hi : itF tx len a t P with
      | none => exact ⟨h1, h2⟩
      | some x =>
        have hs := itF_some hi h1 h2
        exact psF_bd f x.2.1 x.2.2 x.1 hs.1 hs.2.1
    · exact ⟨h1, h2⟩
theorem psF_rg {tx : Nat → Int} {len : Nat} : ∀ (f a : Nat) (t : Nat → Int) (P : PSt), len ≤ 200 → -4 ≤ (psF tx len f a t P).1 ∧ (psF tx len f a t P).1 < 200
  | 0, a, t, P, h1 => by rw [psF]; omega
  | f + 1, a, t, P, h1 => by
    rw [psF]
    split
    · cases hi : itF tx len a t P with
      | none => dsimp only; omega
      | some x => exact psF_rg f x.2.1 x.2.2 x.1 h1
    · dsimp only; omega
theorem c_readIntoR (E : Ev) (d : Nat) (s sg nm len : Nat) (tx : Nat → Int) (at_ : Nat) (t : Nat → Int) (p pK pL pQ pW pX pY pS : Nat) (np nr : Nat) (kd lf qt wd rx ry sh : Nat → Int) (htx : txOK tx len) (hnm : nmOK t) (R : Int × PSt) (hR : psF tx len 200 0 t (clrF (np, kd, lf, qt, wd, nr, rx, ry, sh)) = R) : SP E mX3_readInto (d + 4) 0 0 [.ref s, .ref p] [(s, ob 3 [.ref sg, .ref nm, .int (zz ↑len), .int (zz ↑at_)]), (sg, aC E 200 tx), (nm, aI E 4 t), (p, ob 2 [.ref pK, .ref pL, .ref pQ, .ref pW, .ref pX, .ref pY, .ref pS, .int (zz ↑np), .int (zz ↑nr)]), (pK, aI E 7 kd), (pL, aI E 7 lf), (pQ, aI E 7 qt), (pW, aI E 10 wd), (pX, aI E 6 rx), (pY, aI E 6 ry), (pS, hO sh)] (fun v w => ∃ (a2 : Nat) (t2 : Nat → Int), nmOK t2 ∧ v = some (.int (zz R.1)) ∧ w = scW E s sg nm len tx a2 t2 ++ plW E p pK pL pQ pW pX pY pS R.2) := by
  subst hR
  exact c_readInto E d s sg nm len tx at_ t p pK pL pQ pW pX pY pS np nr kd lf qt wd rx ry sh htx hnm
set_option maxRecDepth 100000 in
set_option maxHeartbeats 400000 in
theorem c_turn_bad (E : Ev) (d : Nat) (x s p z a b c f k q o : Nat) (pK pL pQ pW pX pY pS : Nat) (np nr : Nat) (y : Int) (gy : -2147483648 ≤ y ∧ y < 2147483648) (hn : np ≤ 7) (hy : ¬ (0 ≤ y ∧ y < (np : Int))) : SP E mX6_turn (d + 4) 0 0 [.ref x, .int (zz y)] [(x, ob 6 [.ref s, .ref p, .ref z, .ref a, .ref b, .ref c, .ref f, .ref k, .ref q, .ref o]), (p, ob 2 [.ref pK, .ref pL, .ref pQ, .ref pW, .ref pX, .ref pY, .ref pS, .int (zz ↑np), .int (zz ↑nr)])] (FP (some (.int (zz (-1)))) [(x, ob 6 [.ref s, .ref p, .ref z, .ref a, .ref b, .ref c, .ref f, .ref k, .ref q, .ref o]), (p, ob 2 [.ref pK, .ref pL, .ref pQ, .ref pW, .ref pX, .ref pY, .ref pS, .int (zz ↑np), .int (zz ↑nr)])]) := by
  show RR E mX6_turn (d + 4) 0 0 0 [(0, .ref x), (1, .int (zz y))] [] [(x, ob 6 [.ref s, .ref p, .ref z, .ref a, .ref b, .ref c, .ref f, .ref k, .ref q, .ref o]), (p, ob 2 [.ref pK, .ref pL, .ref pQ, .ref pW, .ref pX, .ref pY, .ref pS, .int (zz ↑np), .int (zz ↑nr)])] (FP (some (.int (zz (-1)))) [(x, ob 6 [.ref s, .ref p, .ref z, .ref a, .ref b, .ref c, .ref f, .ref k, .ref q, .ref o]), (p, ob 2 [.ref pK, .ref pL, .ref pQ, .ref pW, .ref pX, .ref pY, .ref pS, .int (zz ↑np), .int (zz ↑nr)])])
  refine rr_aload_n 0 dX6_turn_0 rfl ?_
  refine rr_get fX6_19 0 rfl rfl dX6_turn_1 ?_
  refine rr_iload_n 1 dX6_turn_4 rfl ?_
  refine rr_callFi (ws2 := [(x, ob 6 [.ref s, .ref p, .ref z, .ref a, .ref b, .ref c, .ref f, .ref k, .ref q, .ref o]), (p, ob 2 [.ref pK, .ref pL, .ref pQ, .ref pW, .ref pX, .ref pY, .ref pS, .int (zz ↑np), .int (zz ↑nr)])]) (wr := [(x, ob 6 [.ref s, .ref p, .ref z, .ref a, .ref b, .ref c, .ref f, .ref k, .ref q, .ref o])]) (call_V (q0 := 0) kX6_104 (c_hasPeg E (d + 3) p pK pL pQ pW pX pY pS np nr y (by omega) (by omega)) rfl rfl rfl rfl (by omega) (by decide) (Nat.le_of_ble_eq_true rfl) (Nat.le_of_ble_eq_true rfl) dX6_turn_5) [1] [0] [0, 1] rfl rfl rfl rfl rfl rfl rfl ?_
  refine rr_if_neD 13 dX6_turn_8 (by decide) (fun c_1 => ?_) (fun c_1 => ?_)
  · skip
    exfalso; omega
  · skip
    refine rr_iconst dX6_turn_11 ?_
    exact rr_iret dX6_turn_12 rfl rfl ⟨rfl, rfl⟩
set_option maxRecDepth 100000 in
set_option maxHeartbeats 400000 in
theorem c_turn_no (E : Ev) (d : Nat) (x s p z a b c f k q o : Nat) (pK pL pQ pW pX pY pS : Nat) (np nr : Nat) (h : Nat → Int) (y : Int) (hn : np ≤ 7) (hy : 0 ≤ y ∧ y < (np : Int)) (hd : h 2 = 0) : SP E mX6_turn (d + 4) 0 0 [.ref x, .int (zz y)] [(x, ob 6 [.ref s, .ref p, .ref z, .ref a, .ref b, .ref c, .ref f, .ref k, .ref q, .ref o]), (p, ob 2 [.ref pK, .ref pL, .ref pQ, .ref pW, .ref pX, .ref pY, .ref pS, .int (zz ↑np), .int (zz ↑nr)]), (a, hO h)] (FP (some (.int (zz (-2)))) [(x, ob 6 [.ref s, .ref p, .ref z, .ref a, .ref b, .ref c, .ref f, .ref k, .ref q, .ref o]), (p, ob 2 [.ref pK, .ref pL, .ref pQ, .ref pW, .ref pX, .ref pY, .ref pS, .int (zz ↑np), .int (zz ↑nr)]), (a, hO h)]) := by
  show RR E mX6_turn (d + 4) 0 0 0 [(0, .ref x), (1, .int (zz y))] [] [(x, ob 6 [.ref s, .ref p, .ref z, .ref a, .ref b, .ref c, .ref f, .ref k, .ref q, .ref o]), (p, ob 2 [.ref pK, .ref pL, .ref pQ, .ref pW, .ref pX, .ref pY, .ref pS, .int (zz ↑np), .int (zz ↑nr)]), (a, hO h)] (FP (some (.int (zz (-2)))) [(x, ob 6 [.ref s, .ref p, .ref z, .ref a, .ref b, .ref c, .ref f, .ref k, .ref q, .ref o]), (p, ob 2 [.ref pK, .ref pL, .ref pQ, .ref pW, .ref pX, .ref pY, .ref pS, .int (zz ↑np), .int (zz ↑nr)]), (a, hO h)])
  refine rr_aload_n 0 dX6_turn_0 rfl ?_
  refine rr_get fX6_19 0 rfl rfl dX6_turn_1 ?_
  refine rr_iload_n 1 dX6_turn_4 rfl ?_
  refine rr_callFi (ws2 := [(x, ob 6 [.ref s, .ref p, .ref z, .ref a, .ref b, .ref c, .ref f, .ref k, .ref q, .ref o]), (p, ob 2 [.ref pK, .ref pL, .ref pQ, .ref pW, .ref pX, .ref pY, .ref pS, .int (zz ↑np), .int (zz ↑nr)]), (a, hO h)]) (wr := [(x, ob 6 [.ref s, .ref p, .ref z, .ref a, .ref b, .ref c, .ref f, .ref k, .ref q, .ref o]), (a, hO h)]) (call_V (q0 := 0) kX6_104 (c_hasPeg E (d + 3) p pK pL pQ pW pX pY pS np nr y (by omega) (by omega)) rfl rfl rfl rfl (by omega) (by decide) (Nat.le_of_ble_eq_true rfl) (Nat.le_of_ble_eq_true rfl) dX6_turn_5) [1] [0, 2] [0, 2, 1] rfl rfl rfl rfl rfl rfl rfl ?_
  refine rr_if_neD 13 dX6_turn_8 (by decide) (fun c_1 => ?_) (fun c_1 => ?_)
  · skip
    refine rr_aload_n 0 dX6_turn_13 rfl ?_
    refine rr_get fX6_29 0 rfl rfl dX6_turn_14 ?_
    refine rr_callFi (ws2 := [(x, ob 6 [.ref s, .ref p, .ref z, .ref a, .ref b, .ref c, .ref f, .ref k, .ref q, .ref o]), (p, ob 2 [.ref pK, .ref pL, .ref pQ, .ref pW, .ref pX, .ref pY, .ref pS, .int (zz ↑np), .int (zz ↑nr)]), (a, hO h)]) (wr := [(x, ob 6 [.ref s, .ref p, .ref z, .ref a, .ref b, .ref c, .ref f, .ref k, .ref q, .ref o]), (p, ob 2 [.ref pK, .ref pL, .ref pQ, .ref pW, .ref pX, .ref pY, .ref pS, .int (zz ↑np), .int (zz ↑nr)])]) (call_V (q0 := 0) kX6_138 (c_isDown E (d + 3) a h (by omega)) rfl rfl rfl rfl (by omega) (by decide) (Nat.le_of_ble_eq_true rfl) (Nat.le_of_ble_eq_true rfl) dX6_turn_17) [2] [0, 1] [0, 1, 2] rfl rfl rfl rfl rfl rfl rfl ?_
    refine rr_if_eqD 26 dX6_turn_20 (by decide) (fun c_2 => ?_) (fun c_2 => ?_)
    · skip
      exfalso; omega
    · skip
      refine rr_bipush dX6_turn_23 (by decide) ?_
      exact rr_iret dX6_turn_25 rfl rfl ⟨rfl, rfl⟩
  · skip
    exfalso; omega
set_option maxRecDepth 100000 in
set_option maxHeartbeats 400000 in
theorem c_turn_y (E : Ev) (d : Nat) (x s p z a b c f k q o : Nat) (pK pL pQ pW pX pY pS : Nat) (np nr : Nat) (kd lf qt wd h : Nat → Int) (hp : pOK np kd lf qt wd) (ho : hOK h) (ar : Nat) (u : Nat → Nat) (g : Nat → Nat → Int) (sz : Nat) (i : Nat) (hi : i < np) (hs : sz ≤ 8) (hd : ¬ h 2 = 0) : SP E mX6_turn (d + 4) 0 0 [.ref x, .int (zz ↑i)] [(x, ob 6 [.ref s, .ref p, .ref z, .ref a, .ref b, .ref c, .ref f, .ref k, .ref q, .ref o]), (p, ob 2 [.ref pK, .ref pL, .ref pQ, .ref pW, .ref pX, .ref pY, .ref pS, .int (zz ↑np), .int (zz ↑nr)]), (pK, aI E 7 kd), (pL, aI E 7 lf), (pQ, aI E 7 qt), (pW, aI E 10 wd), (f, ob 4 [.ref ar, .int (zz ↑sz)]), (ar, aH E 8 (fun i => some (u i))), ((u 0), hO (g 0)), ((u 1), hO (g 1)), ((u 2), hO (g 2)), ((u 3), hO (g 3)), ((u 4), hO (g 4)), ((u 5), hO (g 5)), ((u 6), hO (g 6)), ((u 7), hO (g 7)), (a, hO h)] (fun v w => v = some (.int (zz (tnF np kd lf qt wd h i 2))) ∧ ∃ u3 : Nat → Nat, w = [(x, ob 6 [.ref s, .ref p, .ref z, .ref a, .ref b, .ref c, .ref f, .ref k, .ref q, .ref o]), (p, ob 2 [.ref pK, .ref pL, .ref pQ, .ref pW, .ref pX, .ref pY, .ref pS, .int (zz ↑np), .int (zz ↑nr)]), (pK, aI E 7 kd), (pL, aI E 7 lf), (pQ, aI E 7 qt), (pW, aI E 10 wd)] ++ shW8 E f ar u3 (putG g sz h) (putN sz) ++ [(a, hO (tnF np kd lf qt wd h i))]) := by
  show RR E mX6_turn (d + 4) 0 0 0 [(0, .ref x), (1, .int (zz ↑i))] [] [(x, ob 6 [.ref s, .ref p, .ref z, .ref a, .ref b, .ref c, .ref f, .ref k, .ref q, .ref o]), (p, ob 2 [.ref pK, .ref pL, .ref pQ, .ref pW, .ref pX, .ref pY, .ref pS, .int (zz ↑np), .int (zz ↑nr)]), (pK, aI E 7 kd), (pL, aI E 7 lf), (pQ, aI E 7 qt), (pW, aI E 10 wd), (f, ob 4 [.ref ar, .int (zz ↑sz)]), (ar, aH E 8 (fun i => some (u i))), ((u 0), hO (g 0)), ((u 1), hO (g 1)), ((u 2), hO (g 2)), ((u 3), hO (g 3)), ((u 4), hO (g 4)), ((u 5), hO (g 5)), ((u 6), hO (g 6)), ((u 7), hO (g 7)), (a, hO h)] (fun v w => v = some (.int (zz (tnF np kd lf qt wd h i 2))) ∧ ∃ u3 : Nat → Nat, w = [(x, ob 6 [.ref s, .ref p, .ref z, .ref a, .ref b, .ref c, .ref f, .ref k, .ref q, .ref o]), (p, ob 2 [.ref pK, .ref pL, .ref pQ, .ref pW, .ref pX, .ref pY, .ref pS, .int (zz ↑np), .int (zz ↑nr)]), (pK, aI E 7 kd), (pL, aI E 7 lf), (pQ, aI E 7 qt), (pW, aI E 10 wd)] ++ shW8 E f ar u3 (putG g sz h) (putN sz) ++ [(a, hO (tnF np kd lf qt wd h i))])
  obtain ⟨o0, o1, o2, o3, o5, o6⟩ := id ho
  have hn := hp.1
  refine rr_aload_n 0 dX6_turn_0 rfl ?_
  refine rr_get fX6_19 0 rfl rfl dX6_turn_1 ?_
  refine rr_iload_n 1 dX6_turn_4 rfl ?_
  refine rr_callFi (ws2 := [(x, ob 6 [.ref s, .ref p, .ref z, .ref a, .ref b, .ref c, .ref f, .ref k, .ref q, .ref o]), (p, ob 2 [.ref pK, .ref pL, .ref pQ, .ref pW, .ref pX, .ref pY, .ref pS, .int (zz ↑np), .int (zz ↑nr)]), (pK, aI E 7 kd), (pL, aI E 7 lf), (pQ, aI E 7 qt), (pW, aI E 10 wd), (f, ob 4 [.ref ar, .int (zz ↑sz)]), (ar, aH E 8 (fun i => some (u i))), ((u 0), hO (g 0)), ((u 1), hO (g 1)), ((u 2), hO (g 2)), ((u 3), hO (g 3)), ((u 4), hO (g 4)), ((u 5), hO (g 5)), ((u 6), hO (g 6)), ((u 7), hO (g 7)), (a, hO h)]) (wr := [(x, ob 6 [.ref s, .ref p, .ref z, .ref a, .ref b, .ref c, .ref f, .ref k, .ref q, .ref o]), (pK, aI E 7 kd), (pL, aI E 7 lf), (pQ, aI E 7 qt), (pW, aI E 10 wd), (f, ob 4 [.ref ar, .int (zz ↑sz)]), (ar, aH E 8 (fun i => some (u i))), ((u 0), hO (g 0)), ((u 1), hO (g 1)), ((u 2), hO (g 2)), ((u 3), hO (g 3)), ((u 4), hO (g 4)), ((u 5), hO (g 5)), ((u 6), hO (g 6)), ((u 7), hO (g 7)), (a, hO h)]) (call_V (q0 := 0) kX6_104 (c_hasPeg E (d + 3) p pK pL pQ pW pX pY pS np nr ↑i (by omega) (by omega)) rfl rfl rfl rfl (by omega) (by decide) (Nat.le_of_ble_eq_true rfl) (Nat.le_of_ble_eq_true rfl) dX6_turn_5) [1] [0, 2, 3, 4, 5, 6, 7, 8, 9, 10, 11, 12, 13, 14, 15, 16] [0, 16, 1, 2, 3, 4, 5, 6, 7, 8, 9, 10, 11, 12, 13, 14, 15] rfl rfl rfl rfl rfl rfl rfl ?_
  refine rr_if_neD 13 dX6_turn_8 (by decide) (fun c_1 => ?_) (fun c_1 => ?_)
  · skip
    refine rr_aload_n 0 dX6_turn_13 rfl ?_
    refine rr_get fX6_29 0 rfl rfl dX6_turn_14 ?_
    refine rr_callFi (ws2 := [(x, ob 6 [.ref s, .ref p, .ref z, .ref a, .ref b, .ref c, .ref f, .ref k, .ref q, .ref o]), (p, ob 2 [.ref pK, .ref pL, .ref pQ, .ref pW, .ref pX, .ref pY, .ref pS, .int (zz ↑np), .int (zz ↑nr)]), (pK, aI E 7 kd), (pL, aI E 7 lf), (pQ, aI E 7 qt), (pW, aI E 10 wd), (f, ob 4 [.ref ar, .int (zz ↑sz)]), (ar, aH E 8 (fun i => some (u i))), ((u 0), hO (g 0)), ((u 1), hO (g 1)), ((u 2), hO (g 2)), ((u 3), hO (g 3)), ((u 4), hO (g 4)), ((u 5), hO (g 5)), ((u 6), hO (g 6)), ((u 7), hO (g 7)), (a, hO h)]) (wr := [(x, ob 6 [.ref s, .ref p, .ref z, .ref a, .ref b, .ref c, .ref f, .ref k, .ref q, .ref o]), (p, ob 2 [.ref pK, .ref pL, .ref pQ, .ref pW, .ref pX, .ref pY, .ref pS, .int (zz ↑np), .int (zz ↑nr)]), (pK, aI E 7 kd), (pL, aI E 7 lf), (pQ, aI E 7 qt), (pW, aI E 10 wd), (f, ob 4 [.ref ar, .int (zz ↑sz)]), (ar, aH E 8 (fun i => some (u i))), ((u 0), hO (g 0)), ((u 1), hO (g 1)), ((u 2), hO (g 2)), ((u 3), hO (g 3)), ((u 4), hO (g 4)), ((u 5), hO (g 5)), ((u 6), hO (g 6)), ((u 7), hO (g 7))]) (call_V (q0 := 0) kX6_138 (c_isDown E (d + 3) a h (by omega)) rfl rfl rfl rfl (by omega) (by decide) (Nat.le_of_ble_eq_true rfl) (Nat.le_of_ble_eq_true rfl) dX6_turn_17) [16] [0, 1, 2, 3, 4, 5, 6, 7, 8, 9, 10, 11, 12, 13, 14, 15] [0, 1, 2, 3, 4, 5, 6, 7, 8, 9, 10, 11, 12, 13, 14, 15, 16] rfl rfl rfl rfl rfl rfl rfl ?_
    refine rr_if_eqD 26 dX6_turn_20 (by decide) (fun c_2 => ?_) (fun c_2 => ?_)
    · skip
      refine rr_aload_n 0 dX6_turn_26 rfl ?_
      refine rr_get fX6_44 0 rfl rfl dX6_turn_27 ?_
      refine rr_aload_n 0 dX6_turn_30 rfl ?_
      refine rr_get fX6_29 0 rfl rfl dX6_turn_31 ?_
      refine rr_call (wr := [(x, ob 6 [.ref s, .ref p, .ref z, .ref a, .ref b, .ref c, .ref f, .ref k, .ref q, .ref o]), (p, ob 2 [.ref pK, .ref pL, .ref pQ, .ref pW, .ref pX, .ref pY, .ref pS, .int (zz ↑np), .int (zz ↑nr)]), (pK, aI E 7 kd), (pL, aI E 7 lf), (pQ, aI E 7 qt), (pW, aI E 10 wd)]) (call_V (q0 := 0) kX6_142 (c_put8 E (d + 2) f ar a u g h sz (by omega)) rfl rfl rfl rfl (by omega) (by decide) (Nat.le_of_ble_eq_true rfl) (Nat.le_of_ble_eq_true rfl) dX6_turn_34) [6, 7, 8, 9, 10, 11, 12, 13, 14, 15, 16] [0, 1, 2, 3, 4, 5] rfl rfl rfl rfl rfl (Nat.zero_le _) (Nat.zero_le _) (fun v w1 hp1 => ?_)
      obtain ⟨rfl, u3, rfl⟩ := hp1
      refine RR.eq (st2 := []) (ws2 := [(x, ob 6 [.ref s, .ref p, .ref z, .ref a, .ref b, .ref c, .ref f, .ref k, .ref q, .ref o]), (p, ob 2 [.ref pK, .ref pL, .ref pQ, .ref pW, .ref pX, .ref pY, .ref pS, .int (zz ↑np), .int (zz ↑nr)]), (pK, aI E 7 kd), (pL, aI E 7 lf), (pQ, aI E 7 qt), (pW, aI E 10 wd), (f, ob 4 [.ref ar, .int (zz (↑(putN sz)))]), (ar, aH E 8 (fun i => some (u3 i))), ((u3 0), hO (putG g sz h 0)), ((u3 1), hO (putG g sz h 1)), ((u3 2), hO (putG g sz h 2)), ((u3 3), hO (putG g sz h 3)), ((u3 4), hO (putG g sz h 4)), ((u3 5), hO (putG g sz h 5)), ((u3 6), hO (putG g sz h 6)), ((u3 7), hO (putG g sz h 7)), (a, hO h)]) rfl rfl rfl rfl ?_
      refine rr_aload_n 0 dX6_turn_37 rfl ?_
      refine rr_get fX6_19 0 rfl rfl dX6_turn_38 ?_
      refine rr_aload_n 0 dX6_turn_41 rfl ?_
      refine rr_get fX6_29 0 rfl rfl dX6_turn_42 ?_
      refine rr_iload_n 1 dX6_turn_45 rfl ?_
      refine rr_callFv (ws2 := [(x, ob 6 [.ref s, .ref p, .ref z, .ref a, .ref b, .ref c, .ref f, .ref k, .ref q, .ref o]), (p, ob 2 [.ref pK, .ref pL, .ref pQ, .ref pW, .ref pX, .ref pY, .ref pS, .int (zz ↑np), .int (zz ↑nr)]), (pK, aI E 7 kd), (pL, aI E 7 lf), (pQ, aI E 7 qt), (pW, aI E 10 wd), (f, ob 4 [.ref ar, .int (zz (↑(putN sz)))]), (ar, aH E 8 (fun i => some (u3 i))), ((u3 0), hO (putG g sz h 0)), ((u3 1), hO (putG g sz h 1)), ((u3 2), hO (putG g sz h 2)), ((u3 3), hO (putG g sz h 3)), ((u3 4), hO (putG g sz h 4)), ((u3 5), hO (putG g sz h 5)), ((u3 6), hO (putG g sz h 6)), ((u3 7), hO (putG g sz h 7)), (a, hO (tnF np kd lf qt wd h i))]) (wr := [(x, ob 6 [.ref s, .ref p, .ref z, .ref a, .ref b, .ref c, .ref f, .ref k, .ref q, .ref o]), (f, ob 4 [.ref ar, .int (zz (↑(putN sz)))]), (ar, aH E 8 (fun i => some (u3 i))), ((u3 0), hO (putG g sz h 0)), ((u3 1), hO (putG g sz h 1)), ((u3 2), hO (putG g sz h 2)), ((u3 3), hO (putG g sz h 3)), ((u3 4), hO (putG g sz h 4)), ((u3 5), hO (putG g sz h 5)), ((u3 6), hO (putG g sz h 6)), ((u3 7), hO (putG g sz h 7))]) (call_V (q0 := 0) kX6_145 (c_turnPeg E (d + 0) p pK pL pQ pW pX pY pS np nr a kd lf qt wd h i hp ho (by omega)) rfl rfl rfl rfl (by omega) (by decide) (Nat.le_of_ble_eq_true rfl) (Nat.le_of_ble_eq_true rfl) dX6_turn_46) [1, 2, 3, 4, 5, 16] [0, 6, 7, 8, 9, 10, 11, 12, 13, 14, 15] [0, 11, 12, 13, 14, 15, 1, 2, 3, 4, 5, 6, 7, 8, 9, 10, 16] rfl rfl rfl rfl rfl rfl rfl ?_
      refine rr_aload_n 0 dX6_turn_49 rfl ?_
      refine rr_get fX6_29 0 rfl rfl dX6_turn_50 ?_
      refine rr_get fX6_149 16 rfl rfl dX6_turn_53 ?_
      exact rr_iret dX6_turn_56 rfl rfl ⟨rfl, u3, rfl⟩
    · skip
      exfalso; omega
  · skip
    exfalso; omega
set_option maxRecDepth 100000 in
set_option maxHeartbeats 400000 in
theorem c_flyOn_no (E : Ev) (d : Nat) (x s p z a b c f k q o : Nat) (h : Nat → Int) (hd : h 2 = 0) : SP E mX6_flyOn (d + 3) 0 0 [.ref x] [(x, ob 6 [.ref s, .ref p, .ref z, .ref a, .ref b, .ref c, .ref f, .ref k, .ref q, .ref o]), (a, hO h)] (FP (some (.int (zz (-2)))) [(x, ob 6 [.ref s, .ref p, .ref z, .ref a, .ref b, .ref c, .ref f, .ref k, .ref q, .ref o]), (a, hO h)]) := by
  show RR E mX6_flyOn (d + 3) 0 0 0 [(0, .ref x)] [] [(x, ob 6 [.ref s, .ref p, .ref z, .ref a, .ref b, .ref c, .ref f, .ref k, .ref q, .ref o]), (a, hO h)] (FP (some (.int (zz (-2)))) [(x, ob 6 [.ref s, .ref p, .ref z, .ref a, .ref b, .ref c, .ref f, .ref k, .ref q, .ref o]), (a, hO h)])
  refine rr_aload_n 0 dX6_flyOn_0 rfl ?_
  refine rr_get fX6_29 0 rfl rfl dX6_flyOn_1 ?_
  refine rr_callFi (ws2 := [(x, ob 6 [.ref s, .ref p, .ref z, .ref a, .ref b, .ref c, .ref f, .ref k, .ref q, .ref o]), (a, hO h)]) (wr := [(x, ob 6 [.ref s, .ref p, .ref z, .ref a, .ref b, .ref c, .ref f, .ref k, .ref q, .ref o])]) (call_V (q0 := 0) kX6_138 (c_isDown E (d + 2) a h (by omega)) rfl rfl rfl rfl (by omega) (by decide) (Nat.le_of_ble_eq_true rfl) (Nat.le_of_ble_eq_true rfl) dX6_flyOn_4) [1] [0] [0, 1] rfl rfl rfl rfl rfl rfl rfl ?_
  refine rr_if_eqD 13 dX6_flyOn_7 (by decide) (fun c_1 => ?_) (fun c_1 => ?_)
  · skip
    exfalso; omega
  · skip
    refine rr_bipush dX6_flyOn_10 (by decide) ?_
    exact rr_iret dX6_flyOn_12 rfl rfl ⟨rfl, rfl⟩
set_option maxRecDepth 100000 in
set_option maxHeartbeats 400000 in
theorem c_flyOn_y (E : Ev) (d : Nat) (x s p z a b c f k q o : Nat) (pK pL pQ pW pX pY pS : Nat) (np nr : Nat) (kd lf qt wd h : Nat → Int) (hp : pOK np kd lf qt wd) (ho : hOK h) (ar : Nat) (u : Nat → Nat) (g : Nat → Nat → Int) (sz : Nat) (hs : sz ≤ 8) (hd : ¬ h 2 = 0) : SP E mX6_flyOn (d + 3) 0 0 [.ref x] [(x, ob 6 [.ref s, .ref p, .ref z, .ref a, .ref b, .ref c, .ref f, .ref k, .ref q, .ref o]), (p, ob 2 [.ref pK, .ref pL, .ref pQ, .ref pW, .ref pX, .ref pY, .ref pS, .int (zz ↑np), .int (zz ↑nr)]), (pW, aI E 10 wd), (f, ob 4 [.ref ar, .int (zz ↑sz)]), (ar, aH E 8 (fun i => some (u i))), ((u 0), hO (g 0)), ((u 1), hO (g 1)), ((u 2), hO (g 2)), ((u 3), hO (g 3)), ((u 4), hO (g 4)), ((u 5), hO (g 5)), ((u 6), hO (g 6)), ((u 7), hO (g 7)), (a, hO h)] (fun v w => v = some (.int (zz (10 * glF wd h 1 + glF wd h 0))) ∧ ∃ u3 : Nat → Nat, w = [(x, ob 6 [.ref s, .ref p, .ref z, .ref a, .ref b, .ref c, .ref f, .ref k, .ref q, .ref o]), (p, ob 2 [.ref pK, .ref pL, .ref pQ, .ref pW, .ref pX, .ref pY, .ref pS, .int (zz ↑np), .int (zz ↑nr)]), (pW, aI E 10 wd)] ++ shW8 E f ar u3 (putG g sz h) (putN sz) ++ [(a, hO (glF wd h))]) := by
  show RR E mX6_flyOn (d + 3) 0 0 0 [(0, .ref x)] [] [(x, ob 6 [.ref s, .ref p, .ref z, .ref a, .ref b, .ref c, .ref f, .ref k, .ref q, .ref o]), (p, ob 2 [.ref pK, .ref pL, .ref pQ, .ref pW, .ref pX, .ref pY, .ref pS, .int (zz ↑np), .int (zz ↑nr)]), (pW, aI E 10 wd), (f, ob 4 [.ref ar, .int (zz ↑sz)]), (ar, aH E 8 (fun i => some (u i))), ((u 0), hO (g 0)), ((u 1), hO (g 1)), ((u 2), hO (g 2)), ((u 3), hO (g 3)), ((u 4), hO (g 4)), ((u 5), hO (g 5)), ((u 6), hO (g 6)), ((u 7), hO (g 7)), (a, hO h)] (fun v w => v = some (.int (zz (10 * glF wd h 1 + glF wd h 0))) ∧ ∃ u3 : Nat → Nat, w = [(x, ob 6 [.ref s, .ref p, .ref z, .ref a, .ref b, .ref c, .ref f, .ref k, .ref q, .ref o]), (p, ob 2 [.ref pK, .ref pL, .ref pQ, .ref pW, .ref pX, .ref pY, .ref pS, .int (zz ↑np), .int (zz ↑nr)]), (pW, aI E 10 wd)] ++ shW8 E f ar u3 (putG g sz h) (putN sz) ++ [(a, hO (glF wd h))])
  obtain ⟨o0, o1, o2, o3, o5, o6⟩ := id ho
  have hn := hp.1
  refine rr_aload_n 0 dX6_flyOn_0 rfl ?_
  refine rr_get fX6_29 0 rfl rfl dX6_flyOn_1 ?_
  refine rr_callFi (ws2 := [(x, ob 6 [.ref s, .ref p, .ref z, .ref a, .ref b, .ref c, .ref f, .ref k, .ref q, .ref o]), (p, ob 2 [.ref pK, .ref pL, .ref pQ, .ref pW, .ref pX, .ref pY, .ref pS, .int (zz ↑np), .int (zz ↑nr)]), (pW, aI E 10 wd), (f, ob 4 [.ref ar, .int (zz ↑sz)]), (ar, aH E 8 (fun i => some (u i))), ((u 0), hO (g 0)), ((u 1), hO (g 1)), ((u 2), hO (g 2)), ((u 3), hO (g 3)), ((u 4), hO (g 4)), ((u 5), hO (g 5)), ((u 6), hO (g 6)), ((u 7), hO (g 7)), (a, hO h)]) (wr := [(x, ob 6 [.ref s, .ref p, .ref z, .ref a, .ref b, .ref c, .ref f, .ref k, .ref q, .ref o]), (p, ob 2 [.ref pK, .ref pL, .ref pQ, .ref pW, .ref pX, .ref pY, .ref pS, .int (zz ↑np), .int (zz ↑nr)]), (pW, aI E 10 wd), (f, ob 4 [.ref ar, .int (zz ↑sz)]), (ar, aH E 8 (fun i => some (u i))), ((u 0), hO (g 0)), ((u 1), hO (g 1)), ((u 2), hO (g 2)), ((u 3), hO (g 3)), ((u 4), hO (g 4)), ((u 5), hO (g 5)), ((u 6), hO (g 6)), ((u 7), hO (g 7))]) (call_V (q0 := 0) kX6_138 (c_isDown E (d + 2) a h (by omega)) rfl rfl rfl rfl (by omega) (by decide) (Nat.le_of_ble_eq_true rfl) (Nat.le_of_ble_eq_true rfl) dX6_flyOn_4) [13] [0, 1, 2, 3, 4, 5, 6, 7, 8, 9, 10, 11, 12] [0, 1, 2, 3, 4, 5, 6, 7, 8, 9, 10, 11, 12, 13] rfl rfl rfl rfl rfl rfl rfl ?_
  refine rr_if_eqD 13 dX6_flyOn_7 (by decide) (fun c_1 => ?_) (fun c_1 => ?_)
  · skip
    refine rr_aload_n 0 dX6_flyOn_13 rfl ?_
    refine rr_get fX6_44 0 rfl rfl dX6_flyOn_14 ?_
    refine rr_aload_n 0 dX6_flyOn_17 rfl ?_
    refine rr_get fX6_29 0 rfl rfl dX6_flyOn_18 ?_
    refine rr_call (wr := [(x, ob 6 [.ref s, .ref p, .ref z, .ref a, .ref b, .ref c, .ref f, .ref k, .ref q, .ref o]), (p, ob 2 [.ref pK, .ref pL, .ref pQ, .ref pW, .ref pX, .ref pY, .ref pS, .int (zz ↑np), .int (zz ↑nr)]), (pW, aI E 10 wd)]) (call_V (q0 := 0) kX6_142 (c_put8 E (d + 1) f ar a u g h sz (by omega)) rfl rfl rfl rfl (by omega) (by decide) (Nat.le_of_ble_eq_true rfl) (Nat.le_of_ble_eq_true rfl) dX6_flyOn_21) [3, 4, 5, 6, 7, 8, 9, 10, 11, 12, 13] [0, 1, 2] rfl rfl rfl rfl rfl (Nat.zero_le _) (Nat.zero_le _) (fun v w1 hp1 => ?_)
    obtain ⟨rfl, u3, rfl⟩ := hp1
    refine RR.eq (st2 := []) (ws2 := [(x, ob 6 [.ref s, .ref p, .ref z, .ref a, .ref b, .ref c, .ref f, .ref k, .ref q, .ref o]), (p, ob 2 [.ref pK, .ref pL, .ref pQ, .ref pW, .ref pX, .ref pY, .ref pS, .int (zz ↑np), .int (zz ↑nr)]), (pW, aI E 10 wd), (f, ob 4 [.ref ar, .int (zz (↑(putN sz)))]), (ar, aH E 8 (fun i => some (u3 i))), ((u3 0), hO (putG g sz h 0)), ((u3 1), hO (putG g sz h 1)), ((u3 2), hO (putG g sz h 2)), ((u3 3), hO (putG g sz h 3)), ((u3 4), hO (putG g sz h 4)), ((u3 5), hO (putG g sz h 5)), ((u3 6), hO (putG g sz h 6)), ((u3 7), hO (putG g sz h 7)), (a, hO h)]) rfl rfl rfl rfl ?_
    refine rr_aload_n 0 dX6_flyOn_24 rfl ?_
    refine rr_get fX6_19 0 rfl rfl dX6_flyOn_25 ?_
    refine rr_aload_n 0 dX6_flyOn_28 rfl ?_
    refine rr_get fX6_29 0 rfl rfl dX6_flyOn_29 ?_
    refine rr_callFv (ws2 := [(x, ob 6 [.ref s, .ref p, .ref z, .ref a, .ref b, .ref c, .ref f, .ref k, .ref q, .ref o]), (p, ob 2 [.ref pK, .ref pL, .ref pQ, .ref pW, .ref pX, .ref pY, .ref pS, .int (zz ↑np), .int (zz ↑nr)]), (pW, aI E 10 wd), (f, ob 4 [.ref ar, .int (zz (↑(putN sz)))]), (ar, aH E 8 (fun i => some (u3 i))), ((u3 0), hO (putG g sz h 0)), ((u3 1), hO (putG g sz h 1)), ((u3 2), hO (putG g sz h 2)), ((u3 3), hO (putG g sz h 3)), ((u3 4), hO (putG g sz h 4)), ((u3 5), hO (putG g sz h 5)), ((u3 6), hO (putG g sz h 6)), ((u3 7), hO (putG g sz h 7)), (a, hO (glF wd h))]) (wr := [(x, ob 6 [.ref s, .ref p, .ref z, .ref a, .ref b, .ref c, .ref f, .ref k, .ref q, .ref o]), (f, ob 4 [.ref ar, .int (zz (↑(putN sz)))]), (ar, aH E 8 (fun i => some (u3 i))), ((u3 0), hO (putG g sz h 0)), ((u3 1), hO (putG g sz h 1)), ((u3 2), hO (putG g sz h 2)), ((u3 3), hO (putG g sz h 3)), ((u3 4), hO (putG g sz h 4)), ((u3 5), hO (putG g sz h 5)), ((u3 6), hO (putG g sz h 6)), ((u3 7), hO (putG g sz h 7))]) (call_V (q0 := 0) kX6_152 (c_glide E (d + 0) p pK pL pQ pW pX pY pS np nr a kd lf qt wd h hp ho) rfl rfl rfl rfl (by omega) (by decide) (Nat.le_of_ble_eq_true rfl) (Nat.le_of_ble_eq_true rfl) dX6_flyOn_32) [1, 2, 13] [0, 3, 4, 5, 6, 7, 8, 9, 10, 11, 12] [0, 11, 12, 1, 2, 3, 4, 5, 6, 7, 8, 9, 10, 13] rfl rfl rfl rfl rfl rfl rfl ?_
    refine rr_aload_n 0 dX6_flyOn_35 rfl ?_
    refine rr_get fX6_29 0 rfl rfl dX6_flyOn_36 ?_
    refine rr_callFi (ws2 := [(x, ob 6 [.ref s, .ref p, .ref z, .ref a, .ref b, .ref c, .ref f, .ref k, .ref q, .ref o]), (p, ob 2 [.ref pK, .ref pL, .ref pQ, .ref pW, .ref pX, .ref pY, .ref pS, .int (zz ↑np), .int (zz ↑nr)]), (pW, aI E 10 wd), (f, ob 4 [.ref ar, .int (zz (↑(putN sz)))]), (ar, aH E 8 (fun i => some (u3 i))), ((u3 0), hO (putG g sz h 0)), ((u3 1), hO (putG g sz h 1)), ((u3 2), hO (putG g sz h 2)), ((u3 3), hO (putG g sz h 3)), ((u3 4), hO (putG g sz h 4)), ((u3 5), hO (putG g sz h 5)), ((u3 6), hO (putG g sz h 6)), ((u3 7), hO (putG g sz h 7)), (a, hO (glF wd h))]) (wr := [(x, ob 6 [.ref s, .ref p, .ref z, .ref a, .ref b, .ref c, .ref f, .ref k, .ref q, .ref o]), (p, ob 2 [.ref pK, .ref pL, .ref pQ, .ref pW, .ref pX, .ref pY, .ref pS, .int (zz ↑np), .int (zz ↑nr)]), (pW, aI E 10 wd), (f, ob 4 [.ref ar, .int (zz (↑(putN sz)))]), (ar, aH E 8 (fun i => some (u3 i))), ((u3 0), hO (putG g sz h 0)), ((u3 1), hO (putG g sz h 1)), ((u3 2), hO (putG g sz h 2)), ((u3 3), hO (putG g sz h 3)), ((u3 4), hO (putG g sz h 4)), ((u3 5), hO (putG g sz h 5)), ((u3 6), hO (putG g sz h 6)), ((u3 7), hO (putG g sz h 7))]) (call_V (q0 := 0) kX6_155 (c_spot E (d + 2) a (glF wd h)) rfl rfl rfl rfl (by omega) (by decide) (Nat.le_of_ble_eq_true rfl) (Nat.le_of_ble_eq_true rfl) dX6_flyOn_39) [13] [0, 1, 2, 3, 4, 5, 6, 7, 8, 9, 10, 11, 12] [0, 1, 2, 3, 4, 5, 6, 7, 8, 9, 10, 11, 12, 13] rfl rfl rfl rfl rfl rfl rfl ?_
    exact rr_iret dX6_flyOn_42 rfl rfl ⟨rfl, u3, rfl⟩
  · skip
    exfalso; omega
set_option maxRecDepth 100000 in
set_option maxHeartbeats 400000 in
theorem c_setDown_no (E : Ev) (d : Nat) (x s p z a b c f k q o : Nat) (pK pL pQ pW pX pY pS : Nat) (np nr : Nat) (rx ry h : Nat → Int) (hr : rOK nr rx ry) (ho : hOK h) (hc : ¬ (landF nr rx ry h = true ∧ h 5 = 2)) : SP E mX6_setDown (d + 2) 0 0 [.ref x] [(x, ob 6 [.ref s, .ref p, .ref z, .ref a, .ref b, .ref c, .ref f, .ref k, .ref q, .ref o]), (p, ob 2 [.ref pK, .ref pL, .ref pQ, .ref pW, .ref pX, .ref pY, .ref pS, .int (zz ↑np), .int (zz ↑nr)]), (pX, aI E 6 rx), (pY, aI E 6 ry), (a, hO h)] (FP (some (.int (zz (-2)))) [(x, ob 6 [.ref s, .ref p, .ref z, .ref a, .ref b, .ref c, .ref f, .ref k, .ref q, .ref o]), (p, ob 2 [.ref pK, .ref pL, .ref pQ, .ref pW, .ref pX, .ref pY, .ref pS, .int (zz ↑np), .int (zz ↑nr)]), (pX, aI E 6 rx), (pY, aI E 6 ry), (a, hO h)]) := by
  show RR E mX6_setDown (d + 2) 0 0 0 [(0, .ref x)] [] [(x, ob 6 [.ref s, .ref p, .ref z, .ref a, .ref b, .ref c, .ref f, .ref k, .ref q, .ref o]), (p, ob 2 [.ref pK, .ref pL, .ref pQ, .ref pW, .ref pX, .ref pY, .ref pS, .int (zz ↑np), .int (zz ↑nr)]), (pX, aI E 6 rx), (pY, aI E 6 ry), (a, hO h)] (FP (some (.int (zz (-2)))) [(x, ob 6 [.ref s, .ref p, .ref z, .ref a, .ref b, .ref c, .ref f, .ref k, .ref q, .ref o]), (p, ob 2 [.ref pK, .ref pL, .ref pQ, .ref pW, .ref pX, .ref pY, .ref pS, .int (zz ↑np), .int (zz ↑nr)]), (pX, aI E 6 rx), (pY, aI E 6 ry), (a, hO h)])
  obtain ⟨o0, o1, o2, o3, o5, o6⟩ := id ho
  refine rr_aload_n 0 dX6_setDown_0 rfl ?_
  refine rr_get fX6_29 0 rfl rfl dX6_setDown_1 ?_
  refine rr_get fX6_158 4 rfl rfl dX6_setDown_4 ?_
  refine rr_iconst dX6_setDown_7 ?_
  refine rr_icmp_ne 25 dX6_setDown_8 (by decide) (by omega) (by omega) (fun c_1 => ?_) (fun c_1 => ?_)
  · skip
    refine rr_bipush dX6_setDown_25 (by decide) ?_
    exact rr_iret dX6_setDown_27 rfl rfl ⟨rfl, rfl⟩
  · skip
    refine rr_aload_n 0 dX6_setDown_11 rfl ?_
    refine rr_get fX6_19 0 rfl rfl dX6_setDown_12 ?_
    refine rr_aload_n 0 dX6_setDown_15 rfl ?_
    refine rr_get fX6_29 0 rfl rfl dX6_setDown_16 ?_
    refine rr_callFi (ws2 := [(x, ob 6 [.ref s, .ref p, .ref z, .ref a, .ref b, .ref c, .ref f, .ref k, .ref q, .ref o]), (p, ob 2 [.ref pK, .ref pL, .ref pQ, .ref pW, .ref pX, .ref pY, .ref pS, .int (zz ↑np), .int (zz ↑nr)]), (pX, aI E 6 rx), (pY, aI E 6 ry), (a, hO h)]) (wr := [(x, ob 6 [.ref s, .ref p, .ref z, .ref a, .ref b, .ref c, .ref f, .ref k, .ref q, .ref o])]) (call_V (q0 := 0) kX6_161 (c_hasLanded E (d + 0) p pK pL pQ pW pX pY pS np nr a rx ry h hr ho) rfl rfl rfl rfl (by omega) (by decide) (Nat.le_of_ble_eq_true rfl) (Nat.le_of_ble_eq_true rfl) dX6_setDown_19) [1, 2, 3, 4] [0] [0, 1, 2, 3, 4] rfl rfl rfl rfl rfl rfl rfl ?_
    refine rr_if_neB 28 dX6_setDown_22 (by decide) (fun c_2 => ?_) (fun c_2 => ?_)
    · skip
      exfalso; simp_all [landF]
    · skip
      refine rr_bipush dX6_setDown_25 (by decide) ?_
      exact rr_iret dX6_setDown_27 rfl rfl ⟨rfl, rfl⟩
set_option maxRecDepth 100000 in
set_option maxHeartbeats 400000 in
theorem c_setDown_y (E : Ev) (d : Nat) (x s p z a b c f k q o : Nat) (pK pL pQ pW pX pY pS : Nat) (np nr : Nat) (rx ry h : Nat → Int) (hr : rOK nr rx ry) (ho : hOK h) (ar : Nat) (u : Nat → Nat) (g : Nat → Nat → Int) (sz : Nat) (hs : sz ≤ 8) (hl : landF nr rx ry h = true) (h2 : h 5 = 2) : SP E mX6_setDown (d + 2) 0 0 [.ref x] [(x, ob 6 [.ref s, .ref p, .ref z, .ref a, .ref b, .ref c, .ref f, .ref k, .ref q, .ref o]), (p, ob 2 [.ref pK, .ref pL, .ref pQ, .ref pW, .ref pX, .ref pY, .ref pS, .int (zz ↑np), .int (zz ↑nr)]), (pX, aI E 6 rx), (pY, aI E 6 ry), (f, ob 4 [.ref ar, .int (zz ↑sz)]), (ar, aH E 8 (fun i => some (u i))), ((u 0), hO (g 0)), ((u 1), hO (g 1)), ((u 2), hO (g 2)), ((u 3), hO (g 3)), ((u 4), hO (g 4)), ((u 5), hO (g 5)), ((u 6), hO (g 6)), ((u 7), hO (g 7)), (a, hO h)] (fun v w => v = some (.int (zz 1)) ∧ ∃ u3 : Nat → Nat, w = [(x, ob 6 [.ref s, .ref p, .ref z, .ref a, .ref b, .ref c, .ref f, .ref k, .ref q, .ref o]), (p, ob 2 [.ref pK, .ref pL, .ref pQ, .ref pW, .ref pX, .ref pY, .ref pS, .int (zz ↑np), .int (zz ↑nr)]), (pX, aI E 6 rx), (pY, aI E 6 ry)] ++ shW8 E f ar u3 (putG g sz h) (putN sz) ++ [(a, hO (updI (updI (updI h 5 1) 2 1) 6 (-4)))]) := by
  show RR E mX6_setDown (d + 2) 0 0 0 [(0, .ref x)] [] [(x, ob 6 [.ref s, .ref p, .ref z, .ref a, .ref b, .ref c, .ref f, .ref k, .ref q, .ref o]), (p, ob 2 [.ref pK, .ref pL, .ref pQ, .ref pW, .ref pX, .ref pY, .ref pS, .int (zz ↑np), .int (zz ↑nr)]), (pX, aI E 6 rx), (pY, aI E 6 ry), (f, ob 4 [.ref ar, .int (zz ↑sz)]), (ar, aH E 8 (fun i => some (u i))), ((u 0), hO (g 0)), ((u 1), hO (g 1)), ((u 2), hO (g 2)), ((u 3), hO (g 3)), ((u 4), hO (g 4)), ((u 5), hO (g 5)), ((u 6), hO (g 6)), ((u 7), hO (g 7)), (a, hO h)] (fun v w => v = some (.int (zz 1)) ∧ ∃ u3 : Nat → Nat, w = [(x, ob 6 [.ref s, .ref p, .ref z, .ref a, .ref b, .ref c, .ref f, .ref k, .ref q, .ref o]), (p, ob 2 [.ref pK, .ref pL, .ref pQ, .ref pW, .ref pX, .ref pY, .ref pS, .int (zz ↑np), .int (zz ↑nr)]), (pX, aI E 6 rx), (pY, aI E 6 ry)] ++ shW8 E f ar u3 (putG g sz h) (putN sz) ++ [(a, hO (updI (updI (updI h 5 1) 2 1) 6 (-4)))])
  obtain ⟨o0, o1, o2, o3, o5, o6⟩ := id ho
  refine rr_aload_n 0 dX6_setDown_0 rfl ?_
  refine rr_get fX6_29 0 rfl rfl dX6_setDown_1 ?_
  refine rr_get fX6_158 14 rfl rfl dX6_setDown_4 ?_
  refine rr_iconst dX6_setDown_7 ?_
  refine rr_icmp_ne 25 dX6_setDown_8 (by decide) (by omega) (by omega) (fun c_1 => ?_) (fun c_1 => ?_)
  · skip
    exfalso; omega
  · skip
    refine rr_aload_n 0 dX6_setDown_11 rfl ?_
    refine rr_get fX6_19 0 rfl rfl dX6_setDown_12 ?_
    refine rr_aload_n 0 dX6_setDown_15 rfl ?_
    refine rr_get fX6_29 0 rfl rfl dX6_setDown_16 ?_
    refine rr_callFi (ws2 := [(x, ob 6 [.ref s, .ref p, .ref z, .ref a, .ref b, .ref c, .ref f, .ref k, .ref q, .ref o]), (p, ob 2 [.ref pK, .ref pL, .ref pQ, .ref pW, .ref pX, .ref pY, .ref pS, .int (zz ↑np), .int (zz ↑nr)]), (pX, aI E 6 rx), (pY, aI E 6 ry), (f, ob 4 [.ref ar, .int (zz ↑sz)]), (ar, aH E 8 (fun i => some (u i))), ((u 0), hO (g 0)), ((u 1), hO (g 1)), ((u 2), hO (g 2)), ((u 3), hO (g 3)), ((u 4), hO (g 4)), ((u 5), hO (g 5)), ((u 6), hO (g 6)), ((u 7), hO (g 7)), (a, hO h)]) (wr := [(x, ob 6 [.ref s, .ref p, .ref z, .ref a, .ref b, .ref c, .ref f, .ref k, .ref q, .ref o]), (f, ob 4 [.ref ar, .int (zz ↑sz)]), (ar, aH E 8 (fun i => some (u i))), ((u 0), hO (g 0)), ((u 1), hO (g 1)), ((u 2), hO (g 2)), ((u 3), hO (g 3)), ((u 4), hO (g 4)), ((u 5), hO (g 5)), ((u 6), hO (g 6)), ((u 7), hO (g 7))]) (call_V (q0 := 0) kX6_161 (c_hasLanded E (d + 0) p pK pL pQ pW pX pY pS np nr a rx ry h hr ho) rfl rfl rfl rfl (by omega) (by decide) (Nat.le_of_ble_eq_true rfl) (Nat.le_of_ble_eq_true rfl) dX6_setDown_19) [1, 2, 3, 14] [0, 4, 5, 6, 7, 8, 9, 10, 11, 12, 13] [0, 11, 12, 13, 1, 2, 3, 4, 5, 6, 7, 8, 9, 10, 14] rfl rfl rfl rfl rfl rfl rfl ?_
    refine rr_if_neB 28 dX6_setDown_22 (by decide) (fun c_2 => ?_) (fun c_2 => ?_)
    · skip
      refine rr_aload_n 0 dX6_setDown_28 rfl ?_
      refine rr_get fX6_44 0 rfl rfl dX6_setDown_29 ?_
      refine rr_aload_n 0 dX6_setDown_32 rfl ?_
      refine rr_get fX6_29 0 rfl rfl dX6_setDown_33 ?_
      refine rr_call (wr := [(x, ob 6 [.ref s, .ref p, .ref z, .ref a, .ref b, .ref c, .ref f, .ref k, .ref q, .ref o]), (p, ob 2 [.ref pK, .ref pL, .ref pQ, .ref pW, .ref pX, .ref pY, .ref pS, .int (zz ↑np), .int (zz ↑nr)]), (pX, aI E 6 rx), (pY, aI E 6 ry)]) (call_V (q0 := 0) kX6_142 (c_put8 E (d + 0) f ar a u g h sz (by omega)) rfl rfl rfl rfl (by omega) (by decide) (Nat.le_of_ble_eq_true rfl) (Nat.le_of_ble_eq_true rfl) dX6_setDown_36) [4, 5, 6, 7, 8, 9, 10, 11, 12, 13, 14] [0, 1, 2, 3] rfl rfl rfl rfl rfl (Nat.zero_le _) (Nat.zero_le _) (fun v w1 hp1 => ?_)
      obtain ⟨rfl, u3, rfl⟩ := hp1
      refine RR.eq (st2 := []) (ws2 := [(x, ob 6 [.ref s, .ref p, .ref z, .ref a, .ref b, .ref c, .ref f, .ref k, .ref q, .ref o]), (p, ob 2 [.ref pK, .ref pL, .ref pQ, .ref pW, .ref pX, .ref pY, .ref pS, .int (zz ↑np), .int (zz ↑nr)]), (pX, aI E 6 rx), (pY, aI E 6 ry), (f, ob 4 [.ref ar, .int (zz (↑(putN sz)))]), (ar, aH E 8 (fun i => some (u3 i))), ((u3 0), hO (putG g sz h 0)), ((u3 1), hO (putG g sz h 1)), ((u3 2), hO (putG g sz h 2)), ((u3 3), hO (putG g sz h 3)), ((u3 4), hO (putG g sz h 4)), ((u3 5), hO (putG g sz h 5)), ((u3 6), hO (putG g sz h 6)), ((u3 7), hO (putG g sz h 7)), (a, hO h)]) rfl rfl rfl rfl ?_
      refine rr_aload_n 0 dX6_setDown_39 rfl ?_
      refine rr_get fX6_29 0 rfl rfl dX6_setDown_40 ?_
      refine rr_iconst dX6_setDown_43 ?_
      refine rr_put (ws2 := [(x, ob 6 [.ref s, .ref p, .ref z, .ref a, .ref b, .ref c, .ref f, .ref k, .ref q, .ref o]), (p, ob 2 [.ref pK, .ref pL, .ref pQ, .ref pW, .ref pX, .ref pY, .ref pS, .int (zz ↑np), .int (zz ↑nr)]), (pX, aI E 6 rx), (pY, aI E 6 ry), (f, ob 4 [.ref ar, .int (zz (↑(putN sz)))]), (ar, aH E 8 (fun i => some (u3 i))), ((u3 0), hO (putG g sz h 0)), ((u3 1), hO (putG g sz h 1)), ((u3 2), hO (putG g sz h 2)), ((u3 3), hO (putG g sz h 3)), ((u3 4), hO (putG g sz h 4)), ((u3 5), hO (putG g sz h 5)), ((u3 6), hO (putG g sz h 6)), ((u3 7), hO (putG g sz h 7)), (a, hO (updI h 5 1))]) fX6_158 14 rfl rfl rfl (Nat.le_of_ble_eq_true rfl) rfl dX6_setDown_44 ?_
      refine rr_aload_n 0 dX6_setDown_47 rfl ?_
      refine rr_get fX6_29 0 rfl rfl dX6_setDown_48 ?_
      refine rr_iconst dX6_setDown_51 ?_
      refine rr_put (ws2 := [(x, ob 6 [.ref s, .ref p, .ref z, .ref a, .ref b, .ref c, .ref f, .ref k, .ref q, .ref o]), (p, ob 2 [.ref pK, .ref pL, .ref pQ, .ref pW, .ref pX, .ref pY, .ref pS, .int (zz ↑np), .int (zz ↑nr)]), (pX, aI E 6 rx), (pY, aI E 6 ry), (f, ob 4 [.ref ar, .int (zz (↑(putN sz)))]), (ar, aH E 8 (fun i => some (u3 i))), ((u3 0), hO (putG g sz h 0)), ((u3 1), hO (putG g sz h 1)), ((u3 2), hO (putG g sz h 2)), ((u3 3), hO (putG g sz h 3)), ((u3 4), hO (putG g sz h 4)), ((u3 5), hO (putG g sz h 5)), ((u3 6), hO (putG g sz h 6)), ((u3 7), hO (putG g sz h 7)), (a, hO (updI (updI h 5 1) 2 1))]) fX6_149 14 rfl rfl rfl (Nat.le_of_ble_eq_true rfl) rfl dX6_setDown_52 ?_
      refine rr_aload_n 0 dX6_setDown_55 rfl ?_
      refine rr_get fX6_29 0 rfl rfl dX6_setDown_56 ?_
      refine rr_bipush dX6_setDown_59 (by decide) ?_
      refine rr_put (ws2 := [(x, ob 6 [.ref s, .ref p, .ref z, .ref a, .ref b, .ref c, .ref f, .ref k, .ref q, .ref o]), (p, ob 2 [.ref pK, .ref pL, .ref pQ, .ref pW, .ref pX, .ref pY, .ref pS, .int (zz ↑np), .int (zz ↑nr)]), (pX, aI E 6 rx), (pY, aI E 6 ry), (f, ob 4 [.ref ar, .int (zz (↑(putN sz)))]), (ar, aH E 8 (fun i => some (u3 i))), ((u3 0), hO (putG g sz h 0)), ((u3 1), hO (putG g sz h 1)), ((u3 2), hO (putG g sz h 2)), ((u3 3), hO (putG g sz h 3)), ((u3 4), hO (putG g sz h 4)), ((u3 5), hO (putG g sz h 5)), ((u3 6), hO (putG g sz h 6)), ((u3 7), hO (putG g sz h 7)), (a, hO (updI (updI (updI h 5 1) 2 1) 6 (-4)))]) fX6_165 14 rfl rfl rfl (Nat.le_of_ble_eq_true rfl) rfl dX6_setDown_61 ?_
      refine rr_aload_n 0 dX6_setDown_64 rfl ?_
      refine rr_get fX6_29 0 rfl rfl dX6_setDown_65 ?_
      refine rr_get fX6_158 14 rfl rfl dX6_setDown_68 ?_
      exact rr_iret dX6_setDown_71 rfl rfl ⟨rfl, u3, rfl⟩
    · skip
      exfalso; simp_all [landF]
set_option maxRecDepth 100000 in
set_option maxHeartbeats 400000 in
theorem c_undo_y (E : Ev) (d : Nat) (x s p z a b c f k q o : Nat) (ar : Nat) (u : Nat → Nat) (g : Nat → Nat → Int) (sz : Nat) (h : Nat → Int) (hs : sz < 8) : SP E mX6_undo (d + 2) 0 0 [.ref x] [(x, ob 6 [.ref s, .ref p, .ref z, .ref a, .ref b, .ref c, .ref f, .ref k, .ref q, .ref o]), (f, ob 4 [.ref ar, .int (zz (↑(sz + 1)))]), (ar, aH E 8 (fun i => some (u i))), ((u 0), hO (g 0)), ((u 1), hO (g 1)), ((u 2), hO (g 2)), ((u 3), hO (g 3)), ((u 4), hO (g 4)), ((u 5), hO (g 5)), ((u 6), hO (g 6)), ((u 7), hO (g 7)), (a, hO h)] (FP (some (.int (zz (sz : Int)))) ([(x, ob 6 [.ref s, .ref p, .ref z, .ref a, .ref b, .ref c, .ref f, .ref k, .ref q, .ref o])] ++ shW8 E f ar u g sz ++ [(a, hO (g sz))])) := by
  show RR E mX6_undo (d + 2) 0 0 0 [(0, .ref x)] [] [(x, ob 6 [.ref s, .ref p, .ref z, .ref a, .ref b, .ref c, .ref f, .ref k, .ref q, .ref o]), (f, ob 4 [.ref ar, .int (zz (↑(sz + 1)))]), (ar, aH E 8 (fun i => some (u i))), ((u 0), hO (g 0)), ((u 1), hO (g 1)), ((u 2), hO (g 2)), ((u 3), hO (g 3)), ((u 4), hO (g 4)), ((u 5), hO (g 5)), ((u 6), hO (g 6)), ((u 7), hO (g 7)), (a, hO h)] (FP (some (.int (zz (sz : Int)))) ([(x, ob 6 [.ref s, .ref p, .ref z, .ref a, .ref b, .ref c, .ref f, .ref k, .ref q, .ref o])] ++ shW8 E f ar u g sz ++ [(a, hO (g sz))]))
  refine rr_aload_n 0 dX6_undo_0 rfl ?_
  refine rr_get fX6_44 0 rfl rfl dX6_undo_1 ?_
  refine rr_aload_n 0 dX6_undo_4 rfl ?_
  refine rr_get fX6_29 0 rfl rfl dX6_undo_5 ?_
  refine rr_call (wr := [(x, ob 6 [.ref s, .ref p, .ref z, .ref a, .ref b, .ref c, .ref f, .ref k, .ref q, .ref o])]) (call_V (q0 := 0) kX6_168 (c_take8_y E (d + 0) f ar a u g h sz (by omega)) rfl rfl rfl rfl (by omega) (by decide) (Nat.le_of_ble_eq_true rfl) (Nat.le_of_ble_eq_true rfl) dX6_undo_8) [1, 2, 3, 4, 5, 6, 7, 8, 9, 10, 11] [0] rfl rfl rfl rfl rfl (Nat.zero_le _) (Nat.zero_le _) (fun v w1 hp1 => ?_)
  obtain ⟨rfl, rfl⟩ := hp1
  refine RR.eq (st2 := [.int (zz 1)]) (ws2 := [(x, ob 6 [.ref s, .ref p, .ref z, .ref a, .ref b, .ref c, .ref f, .ref k, .ref q, .ref o]), (f, ob 4 [.ref ar, .int (zz ↑sz)]), (ar, aH E 8 (fun i => some (u i))), ((u 0), hO (g 0)), ((u 1), hO (g 1)), ((u 2), hO (g 2)), ((u 3), hO (g 3)), ((u 4), hO (g 4)), ((u 5), hO (g 5)), ((u 6), hO (g 6)), ((u 7), hO (g 7)), (a, hO (g sz))]) rfl rfl rfl rfl ?_
  refine rr_if_eq 24 dX6_undo_11 (by decide) (by omega) (fun c_1 => ?_) (fun c_1 => ?_)
  · skip
    exfalso; omega
  · skip
    refine rr_aload_n 0 dX6_undo_14 rfl ?_
    refine rr_get fX6_44 0 rfl rfl dX6_undo_15 ?_
    refine rr_get fX6_100 1 rfl rfl dX6_undo_18 ?_
    refine rr_goto 26 dX6_undo_21 (by decide) ?_
    exact rr_iret dX6_undo_26 rfl rfl ⟨rfl, rfl⟩
set_option maxRecDepth 100000 in
set_option maxHeartbeats 400000 in
theorem c_undo_no (E : Ev) (d : Nat) (x s p z a b c f k q o : Nat) (ar : Nat) (u : Nat → Nat) (g : Nat → Nat → Int) (h : Nat → Int) : SP E mX6_undo (d + 2) 0 0 [.ref x] [(x, ob 6 [.ref s, .ref p, .ref z, .ref a, .ref b, .ref c, .ref f, .ref k, .ref q, .ref o]), (f, ob 4 [.ref ar, .int (zz 0)]), (ar, aH E 8 (fun i => some (u i))), ((u 0), hO (g 0)), ((u 1), hO (g 1)), ((u 2), hO (g 2)), ((u 3), hO (g 3)), ((u 4), hO (g 4)), ((u 5), hO (g 5)), ((u 6), hO (g 6)), ((u 7), hO (g 7)), (a, hO h)] (FP (some (.int (zz (-2)))) [(x, ob 6 [.ref s, .ref p, .ref z, .ref a, .ref b, .ref c, .ref f, .ref k, .ref q, .ref o]), (f, ob 4 [.ref ar, .int (zz 0)]), (ar, aH E 8 (fun i => some (u i))), ((u 0), hO (g 0)), ((u 1), hO (g 1)), ((u 2), hO (g 2)), ((u 3), hO (g 3)), ((u 4), hO (g 4)), ((u 5), hO (g 5)), ((u 6), hO (g 6)), ((u 7), hO (g 7)), (a, hO h)]) := by
  show RR E mX6_undo (d + 2) 0 0 0 [(0, .ref x)] [] [(x, ob 6 [.ref s, .ref p, .ref z, .ref a, .ref b, .ref c, .ref f, .ref k, .ref q, .ref o]), (f, ob 4 [.ref ar, .int (zz 0)]), (ar, aH E 8 (fun i => some (u i))), ((u 0), hO (g 0)), ((u 1), hO (g 1)), ((u 2), hO (g 2)), ((u 3), hO (g 3)), ((u 4), hO (g 4)), ((u 5), hO (g 5)), ((u 6), hO (g 6)), ((u 7), hO (g 7)), (a, hO h)] (FP (some (.int (zz (-2)))) [(x, ob 6 [.ref s, .ref p, .ref z, .ref a, .ref b, .ref c, .ref f, .ref k, .ref q, .ref o]), (f, ob 4 [.ref ar, .int (zz 0)]), (ar, aH E 8 (fun i => some (u i))), ((u 0), hO (g 0)), ((u 1), hO (g 1)), ((u 2), hO (g 2)), ((u 3), hO (g 3)), ((u 4), hO (g 4)), ((u 5), hO (g 5)), ((u 6), hO (g 6)), ((u 7), hO (g 7)), (a, hO h)])
  refine rr_aload_n 0 dX6_undo_0 rfl ?_
  refine rr_get fX6_44 0 rfl rfl dX6_undo_1 ?_
  refine rr_aload_n 0 dX6_undo_4 rfl ?_
  refine rr_get fX6_29 0 rfl rfl dX6_undo_5 ?_
  refine rr_callFi (ws2 := [(x, ob 6 [.ref s, .ref p, .ref z, .ref a, .ref b, .ref c, .ref f, .ref k, .ref q, .ref o]), (f, ob 4 [.ref ar, .int (zz 0)]), (ar, aH E 8 (fun i => some (u i))), ((u 0), hO (g 0)), ((u 1), hO (g 1)), ((u 2), hO (g 2)), ((u 3), hO (g 3)), ((u 4), hO (g 4)), ((u 5), hO (g 5)), ((u 6), hO (g 6)), ((u 7), hO (g 7)), (a, hO h)]) (wr := [(x, ob 6 [.ref s, .ref p, .ref z, .ref a, .ref b, .ref c, .ref f, .ref k, .ref q, .ref o])]) (call_V (q0 := 0) kX6_168 (c_take8_n E (d + 0) f ar a u g h) rfl rfl rfl rfl (by omega) (by decide) (Nat.le_of_ble_eq_true rfl) (Nat.le_of_ble_eq_true rfl) dX6_undo_8) [1, 2, 3, 4, 5, 6, 7, 8, 9, 10, 11] [0] [0, 1, 2, 3, 4, 5, 6, 7, 8, 9, 10, 11] rfl rfl rfl rfl rfl rfl rfl ?_
  refine rr_if_eq 24 dX6_undo_11 (by decide) (by omega) (fun c_1 => ?_) (fun c_1 => ?_)
  · skip
    refine rr_bipush dX6_undo_24 (by decide) ?_
    exact rr_iret dX6_undo_26 rfl rfl ⟨rfl, rfl⟩
  · skip
    exfalso; omega
set_option maxRecDepth 100000 in
set_option maxHeartbeats 400000 in
theorem c_keep_full (E : Ev) (d : Nat) (x s p z a b c f k q o : Nat) (ar2 : Nat) (u2 : Nat → Nat) : SP E mX6_keep (d + 2) 0 0 [.ref x] [(x, ob 6 [.ref s, .ref p, .ref z, .ref a, .ref b, .ref c, .ref f, .ref k, .ref q, .ref o]), (k, ob 4 [.ref ar2, .int (zz 2)]), (ar2, aH E 2 (fun i => some (u2 i)))] (FP (some (.int (zz (-3)))) [(x, ob 6 [.ref s, .ref p, .ref z, .ref a, .ref b, .ref c, .ref f, .ref k, .ref q, .ref o]), (k, ob 4 [.ref ar2, .int (zz 2)]), (ar2, aH E 2 (fun i => some (u2 i)))]) := by
  show RR E mX6_keep (d + 2) 0 0 0 [(0, .ref x)] [] [(x, ob 6 [.ref s, .ref p, .ref z, .ref a, .ref b, .ref c, .ref f, .ref k, .ref q, .ref o]), (k, ob 4 [.ref ar2, .int (zz 2)]), (ar2, aH E 2 (fun i => some (u2 i)))] (FP (some (.int (zz (-3)))) [(x, ob 6 [.ref s, .ref p, .ref z, .ref a, .ref b, .ref c, .ref f, .ref k, .ref q, .ref o]), (k, ob 4 [.ref ar2, .int (zz 2)]), (ar2, aH E 2 (fun i => some (u2 i)))])
  refine rr_aload_n 0 dX6_keep_0 rfl ?_
  refine rr_get fX6_48 0 rfl rfl dX6_keep_1 ?_
  refine rr_callFi (ws2 := [(x, ob 6 [.ref s, .ref p, .ref z, .ref a, .ref b, .ref c, .ref f, .ref k, .ref q, .ref o]), (k, ob 4 [.ref ar2, .int (zz 2)]), (ar2, aH E 2 (fun i => some (u2 i)))]) (wr := [(x, ob 6 [.ref s, .ref p, .ref z, .ref a, .ref b, .ref c, .ref f, .ref k, .ref q, .ref o])]) (call_V (q0 := 0) kX6_233 (c_isFull2 E (d + 1) k ar2 u2 2 (by omega)) rfl rfl rfl rfl (by omega) (by decide) (Nat.le_of_ble_eq_true rfl) (Nat.le_of_ble_eq_true rfl) dX6_keep_4) [1, 2] [0] [0, 1, 2] rfl rfl rfl rfl rfl rfl rfl ?_
  refine rr_if_eqD 13 dX6_keep_7 (by decide) (fun c_1 => ?_) (fun c_1 => ?_)
  · skip
    exfalso; omega
  · skip
    refine rr_bipush dX6_keep_10 (by decide) ?_
    exact rr_iret dX6_keep_12 rfl rfl ⟨rfl, rfl⟩
set_option maxRecDepth 100000 in
set_option maxHeartbeats 400000 in
theorem c_keep_y (E : Ev) (d : Nat) (x s p z a b c f k q o : Nat) (ar2 : Nat) (u2 : Nat → Nat) (g2 : Nat → Nat → Int) (sz2 : Nat) (h : Nat → Int) (hs : sz2 < 2) : SP E mX6_keep (d + 2) 0 0 [.ref x] [(x, ob 6 [.ref s, .ref p, .ref z, .ref a, .ref b, .ref c, .ref f, .ref k, .ref q, .ref o]), (k, ob 4 [.ref ar2, .int (zz ↑sz2)]), (ar2, aH E 2 (fun i => some (u2 i))), ((u2 0), hO (g2 0)), ((u2 1), hO (g2 1)), (a, hO h)] (FP (some (.int (zz ((sz2 + 1 : Nat) : Int)))) ([(x, ob 6 [.ref s, .ref p, .ref z, .ref a, .ref b, .ref c, .ref f, .ref k, .ref q, .ref o])] ++ shW2 E k ar2 u2 (updG g2 sz2 h) (sz2 + 1) ++ [(a, hO h)])) := by
  show RR E mX6_keep (d + 2) 0 0 0 [(0, .ref x)] [] [(x, ob 6 [.ref s, .ref p, .ref z, .ref a, .ref b, .ref c, .ref f, .ref k, .ref q, .ref o]), (k, ob 4 [.ref ar2, .int (zz ↑sz2)]), (ar2, aH E 2 (fun i => some (u2 i))), ((u2 0), hO (g2 0)), ((u2 1), hO (g2 1)), (a, hO h)] (FP (some (.int (zz ((sz2 + 1 : Nat) : Int)))) ([(x, ob 6 [.ref s, .ref p, .ref z, .ref a, .ref b, .ref c, .ref f, .ref k, .ref q, .ref o])] ++ shW2 E k ar2 u2 (updG g2 sz2 h) (sz2 + 1) ++ [(a, hO h)]))
  refine rr_aload_n 0 dX6_keep_0 rfl ?_
  refine rr_get fX6_48 0 rfl rfl dX6_keep_1 ?_
  refine rr_callFi (ws2 := [(x, ob 6 [.ref s, .ref p, .ref z, .ref a, .ref b, .ref c, .ref f, .ref k, .ref q, .ref o]), (k, ob 4 [.ref ar2, .int (zz ↑sz2)]), (ar2, aH E 2 (fun i => some (u2 i))), ((u2 0), hO (g2 0)), ((u2 1), hO (g2 1)), (a, hO h)]) (wr := [(x, ob 6 [.ref s, .ref p, .ref z, .ref a, .ref b, .ref c, .ref f, .ref k, .ref q, .ref o]), ((u2 0), hO (g2 0)), ((u2 1), hO (g2 1)), (a, hO h)]) (call_V (q0 := 0) kX6_233 (c_isFull2 E (d + 1) k ar2 u2 sz2 (by omega)) rfl rfl rfl rfl (by omega) (by decide) (Nat.le_of_ble_eq_true rfl) (Nat.le_of_ble_eq_true rfl) dX6_keep_4) [1, 2] [0, 3, 4, 5] [0, 4, 5, 1, 2, 3] rfl rfl rfl rfl rfl rfl rfl ?_
  refine rr_if_eqD 13 dX6_keep_7 (by decide) (fun c_1 => ?_) (fun c_1 => ?_)
  · skip
    refine rr_aload_n 0 dX6_keep_13 rfl ?_
    refine rr_get fX6_48 0 rfl rfl dX6_keep_14 ?_
    refine rr_aload_n 0 dX6_keep_17 rfl ?_
    refine rr_get fX6_29 0 rfl rfl dX6_keep_18 ?_
    refine rr_call (wr := [(x, ob 6 [.ref s, .ref p, .ref z, .ref a, .ref b, .ref c, .ref f, .ref k, .ref q, .ref o])]) (call_V (q0 := 0) kX6_142 (c_put2 E (d + 0) k ar2 a u2 g2 h sz2 (by omega)) rfl rfl rfl rfl (by omega) (by decide) (Nat.le_of_ble_eq_true rfl) (Nat.le_of_ble_eq_true rfl) dX6_keep_21) [1, 2, 3, 4, 5] [0] rfl rfl rfl rfl rfl (Nat.zero_le _) (Nat.zero_le _) (fun v w1 hp1 => ?_)
    obtain ⟨rfl, rfl⟩ := hp1
    refine RR.eq (st2 := []) (ws2 := [(x, ob 6 [.ref s, .ref p, .ref z, .ref a, .ref b, .ref c, .ref f, .ref k, .ref q, .ref o]), (k, ob 4 [.ref ar2, .int (zz (↑(sz2 + 1)))]), (ar2, aH E 2 (fun i => some (u2 i))), ((u2 0), hO (updG g2 sz2 h 0)), ((u2 1), hO (updG g2 sz2 h 1)), (a, hO h)]) rfl rfl rfl rfl ?_
    refine rr_aload_n 0 dX6_keep_24 rfl ?_
    refine rr_get fX6_48 0 rfl rfl dX6_keep_25 ?_
    refine rr_get fX6_100 1 rfl rfl dX6_keep_28 ?_
    exact rr_iret dX6_keep_31 rfl rfl ⟨rfl, rfl⟩
  · skip
    exfalso; omega
set_option maxRecDepth 100000 in
set_option maxHeartbeats 400000 in
theorem c_back_y (E : Ev) (d : Nat) (x s p z a b c f k q o : Nat) (ar sz : Nat) (ar2 : Nat) (u2 : Nat → Nat) (g2 : Nat → Nat → Int) (sz2 : Nat) (h : Nat → Int) (hs : sz2 < 2) : SP E mX6_back (d + 2) 0 0 [.ref x] [(x, ob 6 [.ref s, .ref p, .ref z, .ref a, .ref b, .ref c, .ref f, .ref k, .ref q, .ref o]), (f, ob 4 [.ref ar, .int (zz ↑sz)]), (k, ob 4 [.ref ar2, .int (zz (↑(sz2 + 1)))]), (ar2, aH E 2 (fun i => some (u2 i))), ((u2 0), hO (g2 0)), ((u2 1), hO (g2 1)), (a, hO h)] (FP (some (.int (zz (sz2 : Int)))) ([(x, ob 6 [.ref s, .ref p, .ref z, .ref a, .ref b, .ref c, .ref f, .ref k, .ref q, .ref o]), (f, ob 4 [.ref ar, .int (zz 0)])] ++ shW2 E k ar2 u2 g2 sz2 ++ [(a, hO (g2 sz2))])) := by
  show RR E mX6_back (d + 2) 0 0 0 [(0, .ref x)] [] [(x, ob 6 [.ref s, .ref p, .ref z, .ref a, .ref b, .ref c, .ref f, .ref k, .ref q, .ref o]), (f, ob 4 [.ref ar, .int (zz ↑sz)]), (k, ob 4 [.ref ar2, .int (zz (↑(sz2 + 1)))]), (ar2, aH E 2 (fun i => some (u2 i))), ((u2 0), hO (g2 0)), ((u2 1), hO (g2 1)), (a, hO h)] (FP (some (.int (zz (sz2 : Int)))) ([(x, ob 6 [.ref s, .ref p, .ref z, .ref a, .ref b, .ref c, .ref f, .ref k, .ref q, .ref o]), (f, ob 4 [.ref ar, .int (zz 0)])] ++ shW2 E k ar2 u2 g2 sz2 ++ [(a, hO (g2 sz2))]))
  refine rr_aload_n 0 dX6_back_0 rfl ?_
  refine rr_get fX6_48 0 rfl rfl dX6_back_1 ?_
  refine rr_aload_n 0 dX6_back_4 rfl ?_
  refine rr_get fX6_29 0 rfl rfl dX6_back_5 ?_
  refine rr_call (wr := [(x, ob 6 [.ref s, .ref p, .ref z, .ref a, .ref b, .ref c, .ref f, .ref k, .ref q, .ref o]), (f, ob 4 [.ref ar, .int (zz ↑sz)])]) (call_V (q0 := 0) kX6_168 (c_take2_y E (d + 0) k ar2 a u2 g2 h sz2 (by omega)) rfl rfl rfl rfl (by omega) (by decide) (Nat.le_of_ble_eq_true rfl) (Nat.le_of_ble_eq_true rfl) dX6_back_8) [2, 3, 4, 5, 6] [0, 1] rfl rfl rfl rfl rfl (Nat.zero_le _) (Nat.zero_le _) (fun v w1 hp1 => ?_)
  obtain ⟨rfl, rfl⟩ := hp1
  refine RR.eq (st2 := [.int (zz 1)]) (ws2 := [(x, ob 6 [.ref s, .ref p, .ref z, .ref a, .ref b, .ref c, .ref f, .ref k, .ref q, .ref o]), (f, ob 4 [.ref ar, .int (zz ↑sz)]), (k, ob 4 [.ref ar2, .int (zz ↑sz2)]), (ar2, aH E 2 (fun i => some (u2 i))), ((u2 0), hO (g2 0)), ((u2 1), hO (g2 1)), (a, hO (g2 sz2))]) rfl rfl rfl rfl ?_
  refine rr_if_ne 17 dX6_back_11 (by decide) (by omega) (fun c_1 => ?_) (fun c_1 => ?_)
  · skip
    refine rr_aload_n 0 dX6_back_17 rfl ?_
    refine rr_get fX6_44 0 rfl rfl dX6_back_18 ?_
    refine rr_iconst dX6_back_21 ?_
    refine rr_put (ws2 := [(x, ob 6 [.ref s, .ref p, .ref z, .ref a, .ref b, .ref c, .ref f, .ref k, .ref q, .ref o]), (f, ob 4 [.ref ar, .int (zz 0)]), (k, ob 4 [.ref ar2, .int (zz ↑sz2)]), (ar2, aH E 2 (fun i => some (u2 i))), ((u2 0), hO (g2 0)), ((u2 1), hO (g2 1)), (a, hO (g2 sz2))]) fX6_100 1 rfl rfl rfl (Nat.le_of_ble_eq_true rfl) rfl dX6_back_22 ?_
    refine rr_aload_n 0 dX6_back_25 rfl ?_
    refine rr_get fX6_48 0 rfl rfl dX6_back_26 ?_
    refine rr_get fX6_100 2 rfl rfl dX6_back_29 ?_
    exact rr_iret dX6_back_32 rfl rfl ⟨rfl, rfl⟩
  · skip
    exfalso; omega
set_option maxRecDepth 100000 in
set_option maxHeartbeats 400000 in
theorem c_back_no (E : Ev) (d : Nat) (x s p z a b c f k q o : Nat) (ar2 : Nat) (u2 : Nat → Nat) (g2 : Nat → Nat → Int) (h : Nat → Int) : SP E mX6_back (d + 2) 0 0 [.ref x] [(x, ob 6 [.ref s, .ref p, .ref z, .ref a, .ref b, .ref c, .ref f, .ref k, .ref q, .ref o]), (k, ob 4 [.ref ar2, .int (zz 0)]), (ar2, aH E 2 (fun i => some (u2 i))), ((u2 0), hO (g2 0)), ((u2 1), hO (g2 1)), (a, hO h)] (FP (some (.int (zz (-2)))) [(x, ob 6 [.ref s, .ref p, .ref z, .ref a, .ref b, .ref c, .ref f, .ref k, .ref q, .ref o]), (k, ob 4 [.ref ar2, .int (zz 0)]), (ar2, aH E 2 (fun i => some (u2 i))), ((u2 0), hO (g2 0)), ((u2 1), hO (g2 1)), (a, hO h)]) := by
  show RR E mX6_back (d + 2) 0 0 0 [(0, .ref x)] [] [(x, ob 6 [.ref s, .ref p, .ref z, .ref a, .ref b, .ref c, .ref f, .ref k, .ref q, .ref o]), (k, ob 4 [.ref ar2, .int (zz 0)]), (ar2, aH E 2 (fun i => some (u2 i))), ((u2 0), hO (g2 0)), ((u2 1), hO (g2 1)), (a, hO h)] (FP (some (.int (zz (-2)))) [(x, ob 6 [.ref s, .ref p, .ref z, .ref a, .ref b, .ref c, .ref f, .ref k, .ref q, .ref o]), (k, ob 4 [.ref ar2, .int (zz 0)]), (ar2, aH E 2 (fun i => some (u2 i))), ((u2 0), hO (g2 0)), ((u2 1), hO (g2 1)), (a, hO h)])
  refine rr_aload_n 0 dX6_back_0 rfl ?_
  refine rr_get fX6_48 0 rfl rfl dX6_back_1 ?_
  refine rr_aload_n 0 dX6_back_4 rfl ?_
  refine rr_get fX6_29 0 rfl rfl dX6_back_5 ?_
  refine rr_callFi (ws2 := [(x, ob 6 [.ref s, .ref p, .ref z, .ref a, .ref b, .ref c, .ref f, .ref k, .ref q, .ref o]), (k, ob 4 [.ref ar2, .int (zz 0)]), (ar2, aH E 2 (fun i => some (u2 i))), ((u2 0), hO (g2 0)), ((u2 1), hO (g2 1)), (a, hO h)]) (wr := [(x, ob 6 [.ref s, .ref p, .ref z, .ref a, .ref b, .ref c, .ref f, .ref k, .ref q, .ref o])]) (call_V (q0 := 0) kX6_168 (c_take2_n E (d + 0) k ar2 a u2 g2 h) rfl rfl rfl rfl (by omega) (by decide) (Nat.le_of_ble_eq_true rfl) (Nat.le_of_ble_eq_true rfl) dX6_back_8) [1, 2, 3, 4, 5] [0] [0, 1, 2, 3, 4, 5] rfl rfl rfl rfl rfl rfl rfl ?_
  refine rr_if_ne 17 dX6_back_11 (by decide) (by omega) (fun c_1 => ?_) (fun c_1 => ?_)
  · skip
    exfalso; omega
  · skip
    refine rr_bipush dX6_back_14 (by decide) ?_
    exact rr_iret dX6_back_16 rfl rfl ⟨rfl, rfl⟩
set_option maxRecDepth 100000 in
set_option maxHeartbeats 400000 in
theorem c_seen_bad (E : Ev) (d : Nat) (x s p z a b c f k q o : Nat) (pK pL pQ pW pX pY pS : Nat) (np nr : Nat) (y u v : Int) (gy : -2147483648 ≤ y ∧ y < 2147483648) (gu : -2147483648 ≤ u ∧ u < 2147483648) (gv : -2147483648 ≤ v ∧ v < 2147483648) (hn : np ≤ 7) (hc : ¬ ((0 ≤ y ∧ y < (np : Int)) ∧ (0 ≤ u ∧ u ≤ 3) ∧ 0 ≤ v ∧ v ≤ 36)) : SP E mX6_seen (d + 1) 0 0 [.ref x, .int (zz y), .int (zz u), .int (zz v)] [(x, ob 6 [.ref s, .ref p, .ref z, .ref a, .ref b, .ref c, .ref f, .ref k, .ref q, .ref o]), (p, ob 2 [.ref pK, .ref pL, .ref pQ, .ref pW, .ref pX, .ref pY, .ref pS, .int (zz ↑np), .int (zz ↑nr)])] (FP (some (.int (zz (-1)))) [(x, ob 6 [.ref s, .ref p, .ref z, .ref a, .ref b, .ref c, .ref f, .ref k, .ref q, .ref o]), (p, ob 2 [.ref pK, .ref pL, .ref pQ, .ref pW, .ref pX, .ref pY, .ref pS, .int (zz ↑np), .int (zz ↑nr)])]) := by
  show RR E mX6_seen (d + 1) 0 0 0 [(0, .ref x), (1, .int (zz y)), (2, .int (zz u)), (3, .int (zz v))] [] [(x, ob 6 [.ref s, .ref p, .ref z, .ref a, .ref b, .ref c, .ref f, .ref k, .ref q, .ref o]), (p, ob 2 [.ref pK, .ref pL, .ref pQ, .ref pW, .ref pX, .ref pY, .ref pS, .int (zz ↑np), .int (zz ↑nr)])] (FP (some (.int (zz (-1)))) [(x, ob 6 [.ref s, .ref p, .ref z, .ref a, .ref b, .ref c, .ref f, .ref k, .ref q, .ref o]), (p, ob 2 [.ref pK, .ref pL, .ref pQ, .ref pW, .ref pX, .ref pY, .ref pS, .int (zz ↑np), .int (zz ↑nr)])])
  refine rr_aload_n 0 dX6_seen_0 rfl ?_
  refine rr_get fX6_19 0 rfl rfl dX6_seen_1 ?_
  refine rr_iload_n 1 dX6_seen_4 rfl ?_
  refine rr_callFi (ws2 := [(x, ob 6 [.ref s, .ref p, .ref z, .ref a, .ref b, .ref c, .ref f, .ref k, .ref q, .ref o]), (p, ob 2 [.ref pK, .ref pL, .ref pQ, .ref pW, .ref pX, .ref pY, .ref pS, .int (zz ↑np), .int (zz ↑nr)])]) (wr := [(x, ob 6 [.ref s, .ref p, .ref z, .ref a, .ref b, .ref c, .ref f, .ref k, .ref q, .ref o])]) (call_V (q0 := 0) kX6_104 (c_hasPeg E (d + 0) p pK pL pQ pW pX pY pS np nr y (by omega) (by omega)) rfl rfl rfl rfl (by omega) (by decide) (Nat.le_of_ble_eq_true rfl) (Nat.le_of_ble_eq_true rfl) dX6_seen_5) [1] [0] [0, 1] rfl rfl rfl rfl rfl rfl rfl ?_
  refine rr_if_eqD 30 dX6_seen_8 (by decide) (fun c_1 => ?_) (fun c_1 => ?_)
  · skip
    refine rr_iconst dX6_seen_30 ?_
    exact rr_iret dX6_seen_31 rfl rfl ⟨rfl, rfl⟩
  · skip
    refine rr_iload_n 2 dX6_seen_11 rfl ?_
    refine rr_if_lt 30 dX6_seen_12 (by decide) (by omega) (fun c_2 => ?_) (fun c_2 => ?_)
    · skip
      refine rr_iconst dX6_seen_30 ?_
      exact rr_iret dX6_seen_31 rfl rfl ⟨rfl, rfl⟩
    · skip
      refine rr_iload_n 2 dX6_seen_15 rfl ?_
      refine rr_iconst dX6_seen_16 ?_
      refine rr_icmp_gt 30 dX6_seen_17 (by decide) (by omega) (by omega) (fun c_3 => ?_) (fun c_3 => ?_)
      · skip
        refine rr_iconst dX6_seen_30 ?_
        exact rr_iret dX6_seen_31 rfl rfl ⟨rfl, rfl⟩
      · skip
        refine rr_iload_n 3 dX6_seen_20 rfl ?_
        refine rr_if_lt 30 dX6_seen_21 (by decide) (by omega) (fun c_4 => ?_) (fun c_4 => ?_)
        · skip
          refine rr_iconst dX6_seen_30 ?_
          exact rr_iret dX6_seen_31 rfl rfl ⟨rfl, rfl⟩
        · skip
          refine rr_iload_n 3 dX6_seen_24 rfl ?_
          refine rr_bipush dX6_seen_25 (by decide) ?_
          refine rr_icmp_le 32 dX6_seen_27 (by decide) (by omega) (by omega) (fun c_5 => ?_) (fun c_5 => ?_)
          · skip
            exfalso; omega
          · skip
            refine rr_iconst dX6_seen_30 ?_
            exact rr_iret dX6_seen_31 rfl rfl ⟨rfl, rfl⟩
set_option maxRecDepth 100000 in
set_option maxHeartbeats 400000 in
theorem c_seenX_y (E : Ev) (d : Nat) (x s p z a b c f k q o : Nat) (pK pL pQ pW pX pY pS : Nat) (np nr : Nat) (qp qc qv ns : Nat) (sp sc sv : Nat → Int) (y u v : Int) (hn : np ≤ 7) (hc : (0 ≤ y ∧ y < (np : Int)) ∧ (0 ≤ u ∧ u ≤ 3) ∧ 0 ≤ v ∧ v ≤ 36) (hs : ns < 6) : SP E mX6_seen (d + 1) 0 0 [.ref x, .int (zz y), .int (zz u), .int (zz v)] [(x, ob 6 [.ref s, .ref p, .ref z, .ref a, .ref b, .ref c, .ref f, .ref k, .ref q, .ref o]), (p, ob 2 [.ref pK, .ref pL, .ref pQ, .ref pW, .ref pX, .ref pY, .ref pS, .int (zz ↑np), .int (zz ↑nr)]), (q, ob 5 [.ref qp, .ref qc, .ref qv, .int (zz ↑ns)]), (qp, aI E 6 sp), (qc, aI E 6 sc), (qv, aI E 6 sv)] (FP (some (.int (zz (↑(ns + 1))))) [(x, ob 6 [.ref s, .ref p, .ref z, .ref a, .ref b, .ref c, .ref f, .ref k, .ref q, .ref o]), (p, ob 2 [.ref pK, .ref pL, .ref pQ, .ref pW, .ref pX, .ref pY, .ref pS, .int (zz ↑np), .int (zz ↑nr)]), (q, ob 5 [.ref qp, .ref qc, .ref qv, .int (zz (↑(ns + 1)))]), (qp, aI E 6 (updI sp ns y)), (qc, aI E 6 (updI sc ns u)), (qv, aI E 6 (updI sv ns (v - 18)))]) := by
  show RR E mX6_seen (d + 1) 0 0 0 [(0, .ref x), (1, .int (zz y)), (2, .int (zz u)), (3, .int (zz v))] [] [(x, ob 6 [.ref s, .ref p, .ref z, .ref a, .ref b, .ref c, .ref f, .ref k, .ref q, .ref o]), (p, ob 2 [.ref pK, .ref pL, .ref pQ, .ref pW, .ref pX, .ref pY, .ref pS, .int (zz ↑np), .int (zz ↑nr)]), (q, ob 5 [.ref qp, .ref qc, .ref qv, .int (zz ↑ns)]), (qp, aI E 6 sp), (qc, aI E 6 sc), (qv, aI E 6 sv)] (FP (some (.int (zz (↑(ns + 1))))) [(x, ob 6 [.ref s, .ref p, .ref z, .ref a, .ref b, .ref c, .ref f, .ref k, .ref q, .ref o]), (p, ob 2 [.ref pK, .ref pL, .ref pQ, .ref pW, .ref pX, .ref pY, .ref pS, .int (zz ↑np), .int (zz ↑nr)]), (q, ob 5 [.ref qp, .ref qc, .ref qv, .int (zz (↑(ns + 1)))]), (qp, aI E 6 (updI sp ns y)), (qc, aI E 6 (updI sc ns u)), (qv, aI E 6 (updI sv ns (v - 18)))])
  refine rr_aload_n 0 dX6_seen_0 rfl ?_
  refine rr_get fX6_19 0 rfl rfl dX6_seen_1 ?_
  refine rr_iload_n 1 dX6_seen_4 rfl ?_
  refine rr_callFi (ws2 := [(x, ob 6 [.ref s, .ref p, .ref z, .ref a, .ref b, .ref c, .ref f, .ref k, .ref q, .ref o]), (p, ob 2 [.ref pK, .ref pL, .ref pQ, .ref pW, .ref pX, .ref pY, .ref pS, .int (zz ↑np), .int (zz ↑nr)]), (q, ob 5 [.ref qp, .ref qc, .ref qv, .int (zz ↑ns)]), (qp, aI E 6 sp), (qc, aI E 6 sc), (qv, aI E 6 sv)]) (wr := [(x, ob 6 [.ref s, .ref p, .ref z, .ref a, .ref b, .ref c, .ref f, .ref k, .ref q, .ref o]), (q, ob 5 [.ref qp, .ref qc, .ref qv, .int (zz ↑ns)]), (qp, aI E 6 sp), (qc, aI E 6 sc), (qv, aI E 6 sv)]) (call_V (q0 := 0) kX6_104 (c_hasPeg E (d + 0) p pK pL pQ pW pX pY pS np nr y (by omega) (by omega)) rfl rfl rfl rfl (by omega) (by decide) (Nat.le_of_ble_eq_true rfl) (Nat.le_of_ble_eq_true rfl) dX6_seen_5) [1] [0, 2, 3, 4, 5] [0, 5, 1, 2, 3, 4] rfl rfl rfl rfl rfl rfl rfl ?_
  refine rr_if_eqD 30 dX6_seen_8 (by decide) (fun c_1 => ?_) (fun c_1 => ?_)
  · skip
    exfalso; omega
  · skip
    refine rr_iload_n 2 dX6_seen_11 rfl ?_
    refine rr_if_lt 30 dX6_seen_12 (by decide) (by omega) (fun c_2 => ?_) (fun c_2 => ?_)
    · skip
      exfalso; omega
    · skip
      refine rr_iload_n 2 dX6_seen_15 rfl ?_
      refine rr_iconst dX6_seen_16 ?_
      refine rr_icmp_gt 30 dX6_seen_17 (by decide) (by omega) (by omega) (fun c_3 => ?_) (fun c_3 => ?_)
      · skip
        exfalso; omega
      · skip
        refine rr_iload_n 3 dX6_seen_20 rfl ?_
        refine rr_if_lt 30 dX6_seen_21 (by decide) (by omega) (fun c_4 => ?_) (fun c_4 => ?_)
        · skip
          exfalso; omega
        · skip
          refine rr_iload_n 3 dX6_seen_24 rfl ?_
          refine rr_bipush dX6_seen_25 (by decide) ?_
          refine rr_icmp_le 32 dX6_seen_27 (by decide) (by omega) (by omega) (fun c_5 => ?_) (fun c_5 => ?_)
          · skip
            refine rr_aload_n 0 dX6_seen_32 rfl ?_
            refine rr_get fX6_54 0 rfl rfl dX6_seen_33 ?_
            refine rr_iload_n 1 dX6_seen_36 rfl ?_
            refine rr_iload_n 2 dX6_seen_37 rfl ?_
            refine rr_iload_n 3 dX6_seen_38 rfl ?_
            refine rr_bipush dX6_seen_39 (by decide) ?_
            refine rr_isub dX6_seen_41 ?_
            refine rr_callFi (ws2 := [(x, ob 6 [.ref s, .ref p, .ref z, .ref a, .ref b, .ref c, .ref f, .ref k, .ref q, .ref o]), (p, ob 2 [.ref pK, .ref pL, .ref pQ, .ref pW, .ref pX, .ref pY, .ref pS, .int (zz ↑np), .int (zz ↑nr)]), (q, ob 5 [.ref qp, .ref qc, .ref qv, .int (zz (↑(ns + 1)))]), (qp, aI E 6 (updI sp ns y)), (qc, aI E 6 (updI sc ns u)), (qv, aI E 6 (updI sv ns (v - 18)))]) (wr := [(x, ob 6 [.ref s, .ref p, .ref z, .ref a, .ref b, .ref c, .ref f, .ref k, .ref q, .ref o]), (p, ob 2 [.ref pK, .ref pL, .ref pQ, .ref pW, .ref pX, .ref pY, .ref pS, .int (zz ↑np), .int (zz ↑nr)])]) (call_V (q0 := 0) kX6_210 (c_seen_y E (d + 0) q qp qc qv ns sp sc sv y u (v - 18) (by omega)) rfl rfl rfl rfl (by omega) (by decide) (Nat.le_of_ble_eq_true rfl) (Nat.le_of_ble_eq_true rfl) dX6_seen_42) [2, 3, 4, 5] [0, 1] [0, 1, 2, 3, 4, 5] rfl rfl rfl rfl rfl rfl rfl ?_
            refine rr_if_eq 58 dX6_seen_45 (by decide) (by omega) (fun c_6 => ?_) (fun c_6 => ?_)
            · skip
              exfalso; omega
            · skip
              refine rr_aload_n 0 dX6_seen_48 rfl ?_
              refine rr_get fX6_54 0 rfl rfl dX6_seen_49 ?_
              refine rr_get fX6_103 2 rfl rfl dX6_seen_52 ?_
              refine rr_goto 60 dX6_seen_55 (by decide) ?_
              exact rr_iret dX6_seen_60 rfl rfl ⟨rfl, rfl⟩
          · skip
            exfalso; omega
set_option maxRecDepth 100000 in
set_option maxHeartbeats 400000 in
theorem c_seenX_full (E : Ev) (d : Nat) (x s p z a b c f k q o : Nat) (pK pL pQ pW pX pY pS : Nat) (np nr : Nat) (qp qc qv ns : Nat) (sp sc sv : Nat → Int) (y u v : Int) (hn : np ≤ 7) (hc : (0 ≤ y ∧ y < (np : Int)) ∧ (0 ≤ u ∧ u ≤ 3) ∧ 0 ≤ v ∧ v ≤ 36) (hs : ns = 6) : SP E mX6_seen (d + 1) 0 0 [.ref x, .int (zz y), .int (zz u), .int (zz v)] [(x, ob 6 [.ref s, .ref p, .ref z, .ref a, .ref b, .ref c, .ref f, .ref k, .ref q, .ref o]), (p, ob 2 [.ref pK, .ref pL, .ref pQ, .ref pW, .ref pX, .ref pY, .ref pS, .int (zz ↑np), .int (zz ↑nr)]), (q, ob 5 [.ref qp, .ref qc, .ref qv, .int (zz ↑ns)]), (qp, aI E 6 sp), (qc, aI E 6 sc), (qv, aI E 6 sv)] (FP (some (.int (zz (-3)))) [(x, ob 6 [.ref s, .ref p, .ref z, .ref a, .ref b, .ref c, .ref f, .ref k, .ref q, .ref o]), (p, ob 2 [.ref pK, .ref pL, .ref pQ, .ref pW, .ref pX, .ref pY, .ref pS, .int (zz ↑np), .int (zz ↑nr)]), (q, ob 5 [.ref qp, .ref qc, .ref qv, .int (zz ↑ns)]), (qp, aI E 6 sp), (qc, aI E 6 sc), (qv, aI E 6 sv)]) := by
  show RR E mX6_seen (d + 1) 0 0 0 [(0, .ref x), (1, .int (zz y)), (2, .int (zz u)), (3, .int (zz v))] [] [(x, ob 6 [.ref s, .ref p, .ref z, .ref a, .ref b, .ref c, .ref f, .ref k, .ref q, .ref o]), (p, ob 2 [.ref pK, .ref pL, .ref pQ, .ref pW, .ref pX, .ref pY, .ref pS, .int (zz ↑np), .int (zz ↑nr)]), (q, ob 5 [.ref qp, .ref qc, .ref qv, .int (zz ↑ns)]), (qp, aI E 6 sp), (qc, aI E 6 sc), (qv, aI E 6 sv)] (FP (some (.int (zz (-3)))) [(x, ob 6 [.ref s, .ref p, .ref z, .ref a, .ref b, .ref c, .ref f, .ref k, .ref q, .ref o]), (p, ob 2 [.ref pK, .ref pL, .ref pQ, .ref pW, .ref pX, .ref pY, .ref pS, .int (zz ↑np), .int (zz ↑nr)]), (q, ob 5 [.ref qp, .ref qc, .ref qv, .int (zz ↑ns)]), (qp, aI E 6 sp), (qc, aI E 6 sc), (qv, aI E 6 sv)])
  refine rr_aload_n 0 dX6_seen_0 rfl ?_
  refine rr_get fX6_19 0 rfl rfl dX6_seen_1 ?_
  refine rr_iload_n 1 dX6_seen_4 rfl ?_
  refine rr_callFi (ws2 := [(x, ob 6 [.ref s, .ref p, .ref z, .ref a, .ref b, .ref c, .ref f, .ref k, .ref q, .ref o]), (p, ob 2 [.ref pK, .ref pL, .ref pQ, .ref pW, .ref pX, .ref pY, .ref pS, .int (zz ↑np), .int (zz ↑nr)]), (q, ob 5 [.ref qp, .ref qc, .ref qv, .int (zz ↑ns)]), (qp, aI E 6 sp), (qc, aI E 6 sc), (qv, aI E 6 sv)]) (wr := [(x, ob 6 [.ref s, .ref p, .ref z, .ref a, .ref b, .ref c, .ref f, .ref k, .ref q, .ref o]), (q, ob 5 [.ref qp, .ref qc, .ref qv, .int (zz ↑ns)]), (qp, aI E 6 sp), (qc, aI E 6 sc), (qv, aI E 6 sv)]) (call_V (q0 := 0) kX6_104 (c_hasPeg E (d + 0) p pK pL pQ pW pX pY pS np nr y (by omega) (by omega)) rfl rfl rfl rfl (by omega) (by decide) (Nat.le_of_ble_eq_true rfl) (Nat.le_of_ble_eq_true rfl) dX6_seen_5) [1] [0, 2, 3, 4, 5] [0, 5, 1, 2, 3, 4] rfl rfl rfl rfl rfl rfl rfl ?_
  refine rr_if_eqD 30 dX6_seen_8 (by decide) (fun c_1 => ?_) (fun c_1 => ?_)
  · skip
    exfalso; omega
  · skip
    refine rr_iload_n 2 dX6_seen_11 rfl ?_
    refine rr_if_lt 30 dX6_seen_12 (by decide) (by omega) (fun c_2 => ?_) (fun c_2 => ?_)
    · skip
      exfalso; omega
    · skip
      refine rr_iload_n 2 dX6_seen_15 rfl ?_
      refine rr_iconst dX6_seen_16 ?_
      refine rr_icmp_gt 30 dX6_seen_17 (by decide) (by omega) (by omega) (fun c_3 => ?_) (fun c_3 => ?_)
      · skip
        exfalso; omega
      · skip
        refine rr_iload_n 3 dX6_seen_20 rfl ?_
        refine rr_if_lt 30 dX6_seen_21 (by decide) (by omega) (fun c_4 => ?_) (fun c_4 => ?_)
        · skip
          exfalso; omega
        · skip
          refine rr_iload_n 3 dX6_seen_24 rfl ?_
          refine rr_bipush dX6_seen_25 (by decide) ?_
          refine rr_icmp_le 32 dX6_seen_27 (by decide) (by omega) (by omega) (fun c_5 => ?_) (fun c_5 => ?_)
          · skip
            refine rr_aload_n 0 dX6_seen_32 rfl ?_
            refine rr_get fX6_54 0 rfl rfl dX6_seen_33 ?_
            refine rr_iload_n 1 dX6_seen_36 rfl ?_
            refine rr_iload_n 2 dX6_seen_37 rfl ?_
            refine rr_iload_n 3 dX6_seen_38 rfl ?_
            refine rr_bipush dX6_seen_39 (by decide) ?_
            refine rr_isub dX6_seen_41 ?_
            refine rr_callFi (ws2 := [(x, ob 6 [.ref s, .ref p, .ref z, .ref a, .ref b, .ref c, .ref f, .ref k, .ref q, .ref o]), (p, ob 2 [.ref pK, .ref pL, .ref pQ, .ref pW, .ref pX, .ref pY, .ref pS, .int (zz ↑np), .int (zz ↑nr)]), (q, ob 5 [.ref qp, .ref qc, .ref qv, .int (zz ↑ns)]), (qp, aI E 6 sp), (qc, aI E 6 sc), (qv, aI E 6 sv)]) (wr := [(x, ob 6 [.ref s, .ref p, .ref z, .ref a, .ref b, .ref c, .ref f, .ref k, .ref q, .ref o]), (p, ob 2 [.ref pK, .ref pL, .ref pQ, .ref pW, .ref pX, .ref pY, .ref pS, .int (zz ↑np), .int (zz ↑nr)])]) (call_V (q0 := 0) kX6_210 (c_seen_n E (d + 0) q qp qc qv ns sp sc sv y u (v - 18) (by omega)) rfl rfl rfl rfl (by omega) (by decide) (Nat.le_of_ble_eq_true rfl) (Nat.le_of_ble_eq_true rfl) dX6_seen_42) [2, 3, 4, 5] [0, 1] [0, 1, 2, 3, 4, 5] rfl rfl rfl rfl rfl rfl rfl ?_
            refine rr_if_eq 58 dX6_seen_45 (by decide) (by omega) (fun c_6 => ?_) (fun c_6 => ?_)
            · skip
              refine rr_bipush dX6_seen_58 (by decide) ?_
              exact rr_iret dX6_seen_60 rfl rfl ⟨rfl, rfl⟩
            · skip
              exfalso; omega
          · skip
            exfalso; omega
set_option maxRecDepth 100000 in
set_option maxHeartbeats 400000 in
theorem c_fault (E : Ev) (d : Nat) (x s p z a b c f k q o : Nat) (sg nm len : Nat) (tx : Nat → Int) (at_ : Nat) (t : Nat → Int) (htx : txOK tx len) (hnm : nmOK t) (zK zL zQ zW zX zY zS : Nat) (np0 nr0 : Nat) (kd0 lf0 qt0 wd0 rx0 ry0 sh0 : Nat → Int) : SP E mX6_fault (d + 5) 0 0 [.ref x] [(x, ob 6 [.ref s, .ref p, .ref z, .ref a, .ref b, .ref c, .ref f, .ref k, .ref q, .ref o]), (s, ob 3 [.ref sg, .ref nm, .int (zz ↑len), .int (zz ↑at_)]), (sg, aC E 200 tx), (nm, aI E 4 t), (z, ob 2 [.ref zK, .ref zL, .ref zQ, .ref zW, .ref zX, .ref zY, .ref zS, .int (zz ↑np0), .int (zz ↑nr0)]), (zK, aI E 7 kd0), (zL, aI E 7 lf0), (zQ, aI E 7 qt0), (zW, aI E 10 wd0), (zX, aI E 6 rx0), (zY, aI E 6 ry0), (zS, hO sh0)] (fun v w => v = some (.int (zz (psF tx len 200 0 t (clrF (np0, kd0, lf0, qt0, wd0, nr0, rx0, ry0, sh0))).1)) ∧ ∃ (a1 : Nat) (t1 : Nat → Int), nmOK t1 ∧ w = [(x, ob 6 [.ref s, .ref p, .ref z, .ref a, .ref b, .ref c, .ref f, .ref k, .ref q, .ref o])] ++ scW E s sg nm len tx a1 t1 ++ plW E z zK zL zQ zW zX zY zS (psF tx len 200 0 t (clrF (np0, kd0, lf0, qt0, wd0, nr0, rx0, ry0, sh0))).2) := by
  show RR E mX6_fault (d + 5) 0 0 0 [(0, .ref x)] [] [(x, ob 6 [.ref s, .ref p, .ref z, .ref a, .ref b, .ref c, .ref f, .ref k, .ref q, .ref o]), (s, ob 3 [.ref sg, .ref nm, .int (zz ↑len), .int (zz ↑at_)]), (sg, aC E 200 tx), (nm, aI E 4 t), (z, ob 2 [.ref zK, .ref zL, .ref zQ, .ref zW, .ref zX, .ref zY, .ref zS, .int (zz ↑np0), .int (zz ↑nr0)]), (zK, aI E 7 kd0), (zL, aI E 7 lf0), (zQ, aI E 7 qt0), (zW, aI E 10 wd0), (zX, aI E 6 rx0), (zY, aI E 6 ry0), (zS, hO sh0)] (fun v w => v = some (.int (zz (psF tx len 200 0 t (clrF (np0, kd0, lf0, qt0, wd0, nr0, rx0, ry0, sh0))).1)) ∧ ∃ (a1 : Nat) (t1 : Nat → Int), nmOK t1 ∧ w = [(x, ob 6 [.ref s, .ref p, .ref z, .ref a, .ref b, .ref c, .ref f, .ref k, .ref q, .ref o])] ++ scW E s sg nm len tx a1 t1 ++ plW E z zK zL zQ zW zX zY zS (psF tx len 200 0 t (clrF (np0, kd0, lf0, qt0, wd0, nr0, rx0, ry0, sh0))).2)
  refine rr_aload_n 0 dX6_fault_0 rfl ?_
  refine rr_get fX6_10 0 rfl rfl dX6_fault_1 ?_
  refine rr_aload_n 0 dX6_fault_4 rfl ?_
  refine rr_get fX6_23 0 rfl rfl dX6_fault_5 ?_
  refine rr_call (wr := [(x, ob 6 [.ref s, .ref p, .ref z, .ref a, .ref b, .ref c, .ref f, .ref k, .ref q, .ref o])]) (call_V (q0 := 0) kX6_83 (c_readInto E (d + 0) s sg nm len tx at_ t z zK zL zQ zW zX zY zS np0 nr0 kd0 lf0 qt0 wd0 rx0 ry0 sh0 htx hnm) rfl rfl rfl rfl (by omega) (by decide) (Nat.le_of_ble_eq_true rfl) (Nat.le_of_ble_eq_true rfl) dX6_fault_8) [1, 2, 3, 4, 5, 6, 7, 8, 9, 10, 11] [0] rfl rfl rfl rfl rfl (Nat.zero_le _) (Nat.zero_le _) (fun v w1 hp1 => ?_)
  obtain ⟨a1, t1, ht1, rfl, rfl⟩ := hp1
  refine RR.eq (st2 := [.int (zz ((psF tx len 200 0 t (clrF (np0, kd0, lf0, qt0, wd0, nr0, rx0, ry0, sh0))).1))]) (ws2 := [(x, ob 6 [.ref s, .ref p, .ref z, .ref a, .ref b, .ref c, .ref f, .ref k, .ref q, .ref o]), (s, ob 3 [.ref sg, .ref nm, .int (zz ↑len), .int (zz ↑a1)]), (sg, aC E 200 tx), (nm, aI E 4 t1), (z, ob 2 [.ref zK, .ref zL, .ref zQ, .ref zW, .ref zX, .ref zY, .ref zS, .int (zz (↑((psF tx len 200 0 t (clrF (np0, kd0, lf0, qt0, wd0, nr0, rx0, ry0, sh0))).2.1))), .int (zz (↑((psF tx len 200 0 t (clrF (np0, kd0, lf0, qt0, wd0, nr0, rx0, ry0, sh0))).2.2.2.2.2.2.1)))]), (zK, aI E 7 ((psF tx len 200 0 t (clrF (np0, kd0, lf0, qt0, wd0, nr0, rx0, ry0, sh0))).2.2.1)), (zL, aI E 7 ((psF tx len 200 0 t (clrF (np0, kd0, lf0, qt0, wd0, nr0, rx0, ry0, sh0))).2.2.2.1)), (zQ, aI E 7 ((psF tx len 200 0 t (clrF (np0, kd0, lf0, qt0, wd0, nr0, rx0, ry0, sh0))).2.2.2.2.1)), (zW, aI E 10 ((psF tx len 200 0 t (clrF (np0, kd0, lf0, qt0, wd0, nr0, rx0, ry0, sh0))).2.2.2.2.2.1)), (zX, aI E 6 ((psF tx len 200 0 t (clrF (np0, kd0, lf0, qt0, wd0, nr0, rx0, ry0, sh0))).2.2.2.2.2.2.2.1)), (zY, aI E 6 ((psF tx len 200 0 t (clrF (np0, kd0, lf0, qt0, wd0, nr0, rx0, ry0, sh0))).2.2.2.2.2.2.2.2.1)), (zS, hO ((psF tx len 200 0 t (clrF (np0, kd0, lf0, qt0, wd0, nr0, rx0, ry0, sh0))).2.2.2.2.2.2.2.2.2))]) rfl rfl rfl rfl ?_
  exact rr_iret dX6_fault_11 rfl rfl ⟨rfl, a1, t1, ht1, rfl⟩
set_option maxRecDepth 100000 in
set_option maxHeartbeats 400000 in
theorem c_lay_no (E : Ev) (d : Nat) (x s p z a b c f k q o : Nat) (sg nm len : Nat) (tx : Nat → Int) (at_ : Nat) (t : Nat → Int) (htx : txOK tx len) (hnm : nmOK t) (zK zL zQ zW zX zY zS : Nat) (np0 nr0 : Nat) (kd0 lf0 qt0 wd0 rx0 ry0 sh0 : Nat → Int) (hc : ¬ ((psF tx len 200 0 t (clrF (np0, kd0, lf0, qt0, wd0, nr0, rx0, ry0, sh0))).1 = -4 ∧ 1 ≤ (psF tx len 200 0 t (clrF (np0, kd0, lf0, qt0, wd0, nr0, rx0, ry0, sh0))).2.1)) : SP E mX6_lay (d + 5) 0 0 [.ref x] [(x, ob 6 [.ref s, .ref p, .ref z, .ref a, .ref b, .ref c, .ref f, .ref k, .ref q, .ref o]), (s, ob 3 [.ref sg, .ref nm, .int (zz ↑len), .int (zz ↑at_)]), (sg, aC E 200 tx), (nm, aI E 4 t), (z, ob 2 [.ref zK, .ref zL, .ref zQ, .ref zW, .ref zX, .ref zY, .ref zS, .int (zz ↑np0), .int (zz ↑nr0)]), (zK, aI E 7 kd0), (zL, aI E 7 lf0), (zQ, aI E 7 qt0), (zW, aI E 10 wd0), (zX, aI E 6 rx0), (zY, aI E 6 ry0), (zS, hO sh0)] (fun v w => v = some (.int (zz (-2))) ∧ ∃ (a1 : Nat) (t1 : Nat → Int), nmOK t1 ∧ w = [(x, ob 6 [.ref s, .ref p, .ref z, .ref a, .ref b, .ref c, .ref f, .ref k, .ref q, .ref o])] ++ scW E s sg nm len tx a1 t1 ++ plW E z zK zL zQ zW zX zY zS (psF tx len 200 0 t (clrF (np0, kd0, lf0, qt0, wd0, nr0, rx0, ry0, sh0))).2) := by
  show RR E mX6_lay (d + 5) 0 0 0 [(0, .ref x)] [] [(x, ob 6 [.ref s, .ref p, .ref z, .ref a, .ref b, .ref c, .ref f, .ref k, .ref q, .ref o]), (s, ob 3 [.ref sg, .ref nm, .int (zz ↑len), .int (zz ↑at_)]), (sg, aC E 200 tx), (nm, aI E 4 t), (z, ob 2 [.ref zK, .ref zL, .ref zQ, .ref zW, .ref zX, .ref zY, .ref zS, .int (zz ↑np0), .int (zz ↑nr0)]), (zK, aI E 7 kd0), (zL, aI E 7 lf0), (zQ, aI E 7 qt0), (zW, aI E 10 wd0), (zX, aI E 6 rx0), (zY, aI E 6 ry0), (zS, hO sh0)] (fun v w => v = some (.int (zz (-2))) ∧ ∃ (a1 : Nat) (t1 : Nat → Int), nmOK t1 ∧ w = [(x, ob 6 [.ref s, .ref p, .ref z, .ref a, .ref b, .ref c, .ref f, .ref k, .ref q, .ref o])] ++ scW E s sg nm len tx a1 t1 ++ plW E z zK zL zQ zW zX zY zS (psF tx len 200 0 t (clrF (np0, kd0, lf0, qt0, wd0, nr0, rx0, ry0, sh0))).2)
  have hlen := htx.1
  have hb := psF_bd (tx := tx) (len := len) 200 0 t (clrF (np0, kd0, lf0, qt0, wd0, nr0, rx0, ry0, sh0)) (by show (0 : Nat) ≤ 7; omega) (by show (0 : Nat) ≤ 6; omega)
  refine rr_aload_n 0 dX6_lay_0 rfl ?_
  refine rr_get fX6_10 0 rfl rfl dX6_lay_1 ?_
  refine rr_aload_n 0 dX6_lay_4 rfl ?_
  refine rr_get fX6_23 0 rfl rfl dX6_lay_5 ?_
  refine rr_call (wr := [(x, ob 6 [.ref s, .ref p, .ref z, .ref a, .ref b, .ref c, .ref f, .ref k, .ref q, .ref o])]) (call_V (q0 := 0) kX6_83 (c_readInto E (d + 0) s sg nm len tx at_ t z zK zL zQ zW zX zY zS np0 nr0 kd0 lf0 qt0 wd0 rx0 ry0 sh0 htx hnm) rfl rfl rfl rfl (by omega) (by decide) (Nat.le_of_ble_eq_true rfl) (Nat.le_of_ble_eq_true rfl) dX6_lay_8) [1, 2, 3, 4, 5, 6, 7, 8, 9, 10, 11] [0] rfl rfl rfl rfl rfl (Nat.zero_le _) (Nat.zero_le _) (fun v w1 hp1 => ?_)
  obtain ⟨a1, t1, ht1, rfl, rfl⟩ := hp1
  refine RR.eq (st2 := [.int (zz ((psF tx len 200 0 t (clrF (np0, kd0, lf0, qt0, wd0, nr0, rx0, ry0, sh0))).1))]) (ws2 := [(x, ob 6 [.ref s, .ref p, .ref z, .ref a, .ref b, .ref c, .ref f, .ref k, .ref q, .ref o]), (s, ob 3 [.ref sg, .ref nm, .int (zz ↑len), .int (zz ↑a1)]), (sg, aC E 200 tx), (nm, aI E 4 t1), (z, ob 2 [.ref zK, .ref zL, .ref zQ, .ref zW, .ref zX, .ref zY, .ref zS, .int (zz (↑((psF tx len 200 0 t (clrF (np0, kd0, lf0, qt0, wd0, nr0, rx0, ry0, sh0))).2.1))), .int (zz (↑((psF tx len 200 0 t (clrF (np0, kd0, lf0, qt0, wd0, nr0, rx0, ry0, sh0))).2.2.2.2.2.2.1)))]), (zK, aI E 7 ((psF tx len 200 0 t (clrF (np0, kd0, lf0, qt0, wd0, nr0, rx0, ry0, sh0))).2.2.1)), (zL, aI E 7 ((psF tx len 200 0 t (clrF (np0, kd0, lf0, qt0, wd0, nr0, rx0, ry0, sh0))).2.2.2.1)), (zQ, aI E 7 ((psF tx len 200 0 t (clrF (np0, kd0, lf0, qt0, wd0, nr0, rx0, ry0, sh0))).2.2.2.2.1)), (zW, aI E 10 ((psF tx len 200 0 t (clrF (np0, kd0, lf0, qt0, wd0, nr0, rx0, ry0, sh0))).2.2.2.2.2.1)), (zX, aI E 6 ((psF tx len 200 0 t (clrF (np0, kd0, lf0, qt0, wd0, nr0, rx0, ry0, sh0))).2.2.2.2.2.2.2.1)), (zY, aI E 6 ((psF tx len 200 0 t (clrF (np0, kd0, lf0, qt0, wd0, nr0, rx0, ry0, sh0))).2.2.2.2.2.2.2.2.1)), (zS, hO ((psF tx len 200 0 t (clrF (np0, kd0, lf0, qt0, wd0, nr0, rx0, ry0, sh0))).2.2.2.2.2.2.2.2.2))]) rfl rfl rfl rfl ?_
  refine rr_bipush dX6_lay_11 (by decide) ?_
  refine rr_icmp_ne 27 dX6_lay_13 (by decide) (by have := psF_rg (tx := tx) (len := len) 200 0 t (clrF (np0, kd0, lf0, qt0, wd0, nr0, rx0, ry0, sh0)) (by omega); omega) (by have := psF_rg (tx := tx) (len := len) 200 0 t (clrF (np0, kd0, lf0, qt0, wd0, nr0, rx0, ry0, sh0)) (by omega); omega) (fun c_1 => ?_) (fun c_1 => ?_)
  · skip
    refine rr_bipush dX6_lay_27 (by decide) ?_
    exact rr_iret dX6_lay_29 rfl rfl ⟨rfl, a1, t1, ht1, rfl⟩
  · skip
    refine rr_aload_n 0 dX6_lay_16 rfl ?_
    refine rr_get fX6_23 0 rfl rfl dX6_lay_17 ?_
    refine rr_get fX6_97 4 rfl rfl dX6_lay_20 ?_
    refine rr_iconst dX6_lay_23 ?_
    refine rr_icmp_ge 30 dX6_lay_24 (by decide) (by omega) (by omega) (fun c_2 => ?_) (fun c_2 => ?_)
    · skip
      exfalso; omega
    · skip
      refine rr_bipush dX6_lay_27 (by decide) ?_
      exact rr_iret dX6_lay_29 rfl rfl ⟨rfl, a1, t1, ht1, rfl⟩
set_option maxRecDepth 100000 in
set_option maxHeartbeats 400000 in
theorem c_lay_y (E : Ev) (d : Nat) (x s p z a b c f k q o : Nat) (sg nm len : Nat) (tx : Nat → Int) (at_ : Nat) (t : Nat → Int) (htx : txOK tx len) (hnm : nmOK t) (zK zL zQ zW zX zY zS : Nat) (np0 nr0 : Nat) (kd0 lf0 qt0 wd0 rx0 ry0 sh0 : Nat → Int) (pK pL pQ pW pX pY pS : Nat) (np1 nr1 : Nat) (kd1 lf1 qt1 wd1 rx1 ry1 sh1 : Nat → Int) (h : Nat → Int) (ar ar2 sz sz2 qp qc qv ns : Nat) (R0 : Int × PSt) (hR0 : psF tx len 200 0 t (clrF (np0, kd0, lf0, qt0, wd0, nr0, rx0, ry0, sh0)) = R0) (hc : R0.1 = -4 ∧ 1 ≤ R0.2.1) : SP E mX6_lay (d + 5) 0 0 [.ref x] [(x, ob 6 [.ref s, .ref p, .ref z, .ref a, .ref b, .ref c, .ref f, .ref k, .ref q, .ref o]), (s, ob 3 [.ref sg, .ref nm, .int (zz ↑len), .int (zz ↑at_)]), (sg, aC E 200 tx), (nm, aI E 4 t), (z, ob 2 [.ref zK, .ref zL, .ref zQ, .ref zW, .ref zX, .ref zY, .ref zS, .int (zz ↑np0), .int (zz ↑nr0)]), (zK, aI E 7 kd0), (zL, aI E 7 lf0), (zQ, aI E 7 qt0), (zW, aI E 10 wd0), (zX, aI E 6 rx0), (zY, aI E 6 ry0), (zS, hO sh0), (p, ob 2 [.ref pK, .ref pL, .ref pQ, .ref pW, .ref pX, .ref pY, .ref pS, .int (zz ↑np1), .int (zz ↑nr1)]), (pK, aI E 7 kd1), (pL, aI E 7 lf1), (pQ, aI E 7 qt1), (pW, aI E 10 wd1), (pX, aI E 6 rx1), (pY, aI E 6 ry1), (pS, hO sh1), (a, hO h), (f, ob 4 [.ref ar, .int (zz ↑sz)]), (k, ob 4 [.ref ar2, .int (zz ↑sz2)]), (q, ob 5 [.ref qp, .ref qc, .ref qv, .int (zz ↑ns)])] (fun v w => ∃ (a2 : Nat) (t1 t2 : Nat → Int) (R1 : Int × PSt), nmOK t1 ∧ nmOK t2 ∧ psF tx len 200 0 t1 (clrF (np1, kd1, lf1, qt1, wd1, nr1, rx1, ry1, sh1)) = R1 ∧ v = some (.int (zz ((R1.2.1 : Nat) : Int))) ∧ w.Perm ([(x, ob 6 [.ref s, .ref p, .ref z, .ref a, .ref b, .ref c, .ref f, .ref k, .ref q, .ref o]), (a, hO R1.2.2.2.2.2.2.2.2.2), (f, ob 4 [.ref ar, .int (zz 0)]), (k, ob 4 [.ref ar2, .int (zz 0)]), (q, ob 5 [.ref qp, .ref qc, .ref qv, .int (zz 0)])] ++ scW E s sg nm len tx a2 t2 ++ plW E z zK zL zQ zW zX zY zS R0.2 ++ plW E p pK pL pQ pW pX pY pS R1.2)) := by
  show RR E mX6_lay (d + 5) 0 0 0 [(0, .ref x)] [] [(x, ob 6 [.ref s, .ref p, .ref z, .ref a, .ref b, .ref c, .ref f, .ref k, .ref q, .ref o]), (s, ob 3 [.ref sg, .ref nm, .int (zz ↑len), .int (zz ↑at_)]), (sg, aC E 200 tx), (nm, aI E 4 t), (z, ob 2 [.ref zK, .ref zL, .ref zQ, .ref zW, .ref zX, .ref zY, .ref zS, .int (zz ↑np0), .int (zz ↑nr0)]), (zK, aI E 7 kd0), (zL, aI E 7 lf0), (zQ, aI E 7 qt0), (zW, aI E 10 wd0), (zX, aI E 6 rx0), (zY, aI E 6 ry0), (zS, hO sh0), (p, ob 2 [.ref pK, .ref pL, .ref pQ, .ref pW, .ref pX, .ref pY, .ref pS, .int (zz ↑np1), .int (zz ↑nr1)]), (pK, aI E 7 kd1), (pL, aI E 7 lf1), (pQ, aI E 7 qt1), (pW, aI E 10 wd1), (pX, aI E 6 rx1), (pY, aI E 6 ry1), (pS, hO sh1), (a, hO h), (f, ob 4 [.ref ar, .int (zz ↑sz)]), (k, ob 4 [.ref ar2, .int (zz ↑sz2)]), (q, ob 5 [.ref qp, .ref qc, .ref qv, .int (zz ↑ns)])] (fun v w => ∃ (a2 : Nat) (t1 t2 : Nat → Int) (R1 : Int × PSt), nmOK t1 ∧ nmOK t2 ∧ psF tx len 200 0 t1 (clrF (np1, kd1, lf1, qt1, wd1, nr1, rx1, ry1, sh1)) = R1 ∧ v = some (.int (zz ((R1.2.1 : Nat) : Int))) ∧ w.Perm ([(x, ob 6 [.ref s, .ref p, .ref z, .ref a, .ref b, .ref c, .ref f, .ref k, .ref q, .ref o]), (a, hO R1.2.2.2.2.2.2.2.2.2), (f, ob 4 [.ref ar, .int (zz 0)]), (k, ob 4 [.ref ar2, .int (zz 0)]), (q, ob 5 [.ref qp, .ref qc, .ref qv, .int (zz 0)])] ++ scW E s sg nm len tx a2 t2 ++ plW E z zK zL zQ zW zX zY zS R0.2 ++ plW E p pK pL pQ pW pX pY pS R1.2))
  have hlen := htx.1
  have hb := psF_bd (tx := tx) (len := len) 200 0 t (clrF (np0, kd0, lf0, qt0, wd0, nr0, rx0, ry0, sh0)) (by show (0 : Nat) ≤ 7; omega) (by show (0 : Nat) ≤ 6; omega)
  rw [hR0] at hb
  refine rr_aload_n 0 dX6_lay_0 rfl ?_
  refine rr_get fX6_10 0 rfl rfl dX6_lay_1 ?_
  refine rr_aload_n 0 dX6_lay_4 rfl ?_
  refine rr_get fX6_23 0 rfl rfl dX6_lay_5 ?_
  refine rr_call (wr := [(x, ob 6 [.ref s, .ref p, .ref z, .ref a, .ref b, .ref c, .ref f, .ref k, .ref q, .ref o]), (p, ob 2 [.ref pK, .ref pL, .ref pQ, .ref pW, .ref pX, .ref pY, .ref pS, .int (zz ↑np1), .int (zz ↑nr1)]), (pK, aI E 7 kd1), (pL, aI E 7 lf1), (pQ, aI E 7 qt1), (pW, aI E 10 wd1), (pX, aI E 6 rx1), (pY, aI E 6 ry1), (pS, hO sh1), (a, hO h), (f, ob 4 [.ref ar, .int (zz ↑sz)]), (k, ob 4 [.ref ar2, .int (zz ↑sz2)]), (q, ob 5 [.ref qp, .ref qc, .ref qv, .int (zz ↑ns)])]) (call_V (q0 := 0) kX6_83 (c_readIntoR E (d + 0) s sg nm len tx at_ t z zK zL zQ zW zX zY zS np0 nr0 kd0 lf0 qt0 wd0 rx0 ry0 sh0 htx hnm R0 hR0) rfl rfl rfl rfl (by omega) (by decide) (Nat.le_of_ble_eq_true rfl) (Nat.le_of_ble_eq_true rfl) dX6_lay_8) [1, 2, 3, 4, 5, 6, 7, 8, 9, 10, 11] [0, 12, 13, 14, 15, 16, 17, 18, 19, 20, 21, 22, 23] rfl rfl rfl rfl rfl (Nat.zero_le _) (Nat.zero_le _) (fun v w1 hp1 => ?_)
  obtain ⟨a1, t1, ht1, rfl, rfl⟩ := hp1
  refine RR.eq (st2 := [.int (zz ((R0).1))]) (ws2 := [(x, ob 6 [.ref s, .ref p, .ref z, .ref a, .ref b, .ref c, .ref f, .ref k, .ref q, .ref o]), (p, ob 2 [.ref pK, .ref pL, .ref pQ, .ref pW, .ref pX, .ref pY, .ref pS, .int (zz ↑np1), .int (zz ↑nr1)]), (pK, aI E 7 kd1), (pL, aI E 7 lf1), (pQ, aI E 7 qt1), (pW, aI E 10 wd1), (pX, aI E 6 rx1), (pY, aI E 6 ry1), (pS, hO sh1), (a, hO h), (f, ob 4 [.ref ar, .int (zz ↑sz)]), (k, ob 4 [.ref ar2, .int (zz ↑sz2)]), (q, ob 5 [.ref qp, .ref qc, .ref qv, .int (zz ↑ns)]), (s, ob 3 [.ref sg, .ref nm, .int (zz ↑len), .int (zz ↑a1)]), (sg, aC E 200 tx), (nm, aI E 4 t1), (z, ob 2 [.ref zK, .ref zL, .ref zQ, .ref zW, .ref zX, .ref zY, .ref zS, .int (zz (↑((R0).2.1))), .int (zz (↑((R0).2.2.2.2.2.2.1)))]), (zK, aI E 7 ((R0).2.2.1)), (zL, aI E 7 ((R0).2.2.2.1)), (zQ, aI E 7 ((R0).2.2.2.2.1)), (zW, aI E 10 ((R0).2.2.2.2.2.1)), (zX, aI E 6 ((R0).2.2.2.2.2.2.2.1)), (zY, aI E 6 ((R0).2.2.2.2.2.2.2.2.1)), (zS, hO ((R0).2.2.2.2.2.2.2.2.2))]) rfl rfl rfl rfl ?_
  obtain ⟨R1, hR1⟩ : ∃ R, psF tx len 200 0 t1 (clrF (np1, kd1, lf1, qt1, wd1, nr1, rx1, ry1, sh1)) = R := ⟨_, rfl⟩
  refine rr_bipush dX6_lay_11 (by decide) ?_
  refine rr_icmp_ne 27 dX6_lay_13 (by decide) (by omega) (by omega) (fun c_1 => ?_) (fun c_1 => ?_)
  · skip
    exfalso; omega
  · skip
    refine rr_aload_n 0 dX6_lay_16 rfl ?_
    refine rr_get fX6_23 0 rfl rfl dX6_lay_17 ?_
    refine rr_get fX6_97 16 rfl rfl dX6_lay_20 ?_
    refine rr_iconst dX6_lay_23 ?_
    refine rr_icmp_ge 30 dX6_lay_24 (by decide) (by omega) (by omega) (fun c_2 => ?_) (fun c_2 => ?_)
    · skip
      refine rr_aload_n 0 dX6_lay_30 rfl ?_
      refine rr_get fX6_10 0 rfl rfl dX6_lay_31 ?_
      refine rr_aload_n 0 dX6_lay_34 rfl ?_
      refine rr_get fX6_19 0 rfl rfl dX6_lay_35 ?_
      refine rr_call (wr := [(x, ob 6 [.ref s, .ref p, .ref z, .ref a, .ref b, .ref c, .ref f, .ref k, .ref q, .ref o]), (a, hO h), (f, ob 4 [.ref ar, .int (zz ↑sz)]), (k, ob 4 [.ref ar2, .int (zz ↑sz2)]), (q, ob 5 [.ref qp, .ref qc, .ref qv, .int (zz ↑ns)]), (z, ob 2 [.ref zK, .ref zL, .ref zQ, .ref zW, .ref zX, .ref zY, .ref zS, .int (zz (↑((R0).2.1))), .int (zz (↑((R0).2.2.2.2.2.2.1)))]), (zK, aI E 7 ((R0).2.2.1)), (zL, aI E 7 ((R0).2.2.2.1)), (zQ, aI E 7 ((R0).2.2.2.2.1)), (zW, aI E 10 ((R0).2.2.2.2.2.1)), (zX, aI E 6 ((R0).2.2.2.2.2.2.2.1)), (zY, aI E 6 ((R0).2.2.2.2.2.2.2.2.1)), (zS, hO ((R0).2.2.2.2.2.2.2.2.2))]) (call_V (q0 := 0) kX6_83 (c_readIntoR E (d + 0) s sg nm len tx a1 t1 p pK pL pQ pW pX pY pS np1 nr1 kd1 lf1 qt1 wd1 rx1 ry1 sh1 htx ht1 R1 hR1) rfl rfl rfl rfl (by omega) (by decide) (Nat.le_of_ble_eq_true rfl) (Nat.le_of_ble_eq_true rfl) dX6_lay_38) [13, 14, 15, 1, 2, 3, 4, 5, 6, 7, 8] [0, 9, 10, 11, 12, 16, 17, 18, 19, 20, 21, 22, 23] rfl rfl rfl rfl rfl (Nat.zero_le _) (Nat.zero_le _) (fun v w1 hp1 => ?_)
      obtain ⟨a2, t2, ht2, rfl, rfl⟩ := hp1
      refine RR.eq (st2 := [.int (zz ((R1).1))]) (ws2 := [(x, ob 6 [.ref s, .ref p, .ref z, .ref a, .ref b, .ref c, .ref f, .ref k, .ref q, .ref o]), (a, hO h), (f, ob 4 [.ref ar, .int (zz ↑sz)]), (k, ob 4 [.ref ar2, .int (zz ↑sz2)]), (q, ob 5 [.ref qp, .ref qc, .ref qv, .int (zz ↑ns)]), (z, ob 2 [.ref zK, .ref zL, .ref zQ, .ref zW, .ref zX, .ref zY, .ref zS, .int (zz (↑((R0).2.1))), .int (zz (↑((R0).2.2.2.2.2.2.1)))]), (zK, aI E 7 ((R0).2.2.1)), (zL, aI E 7 ((R0).2.2.2.1)), (zQ, aI E 7 ((R0).2.2.2.2.1)), (zW, aI E 10 ((R0).2.2.2.2.2.1)), (zX, aI E 6 ((R0).2.2.2.2.2.2.2.1)), (zY, aI E 6 ((R0).2.2.2.2.2.2.2.2.1)), (zS, hO ((R0).2.2.2.2.2.2.2.2.2)), (s, ob 3 [.ref sg, .ref nm, .int (zz ↑len), .int (zz ↑a2)]), (sg, aC E 200 tx), (nm, aI E 4 t2), (p, ob 2 [.ref pK, .ref pL, .ref pQ, .ref pW, .ref pX, .ref pY, .ref pS, .int (zz (↑((R1).2.1))), .int (zz (↑((R1).2.2.2.2.2.2.1)))]), (pK, aI E 7 ((R1).2.2.1)), (pL, aI E 7 ((R1).2.2.2.1)), (pQ, aI E 7 ((R1).2.2.2.2.1)), (pW, aI E 10 ((R1).2.2.2.2.2.1)), (pX, aI E 6 ((R1).2.2.2.2.2.2.2.1)), (pY, aI E 6 ((R1).2.2.2.2.2.2.2.2.1)), (pS, hO ((R1).2.2.2.2.2.2.2.2.2))]) rfl rfl rfl rfl ?_
      refine rr_pop dX6_lay_41 rfl ?_
      refine rr_aload_n 0 dX6_lay_42 rfl ?_
      refine rr_get fX6_29 0 rfl rfl dX6_lay_43 ?_
      refine rr_aload_n 0 dX6_lay_46 rfl ?_
      refine rr_get fX6_19 0 rfl rfl dX6_lay_47 ?_
      refine rr_get fX6_90 16 rfl rfl dX6_lay_50 ?_
      refine rr_callFv (ws2 := [(x, ob 6 [.ref s, .ref p, .ref z, .ref a, .ref b, .ref c, .ref f, .ref k, .ref q, .ref o]), (a, hO ((R1).2.2.2.2.2.2.2.2.2)), (f, ob 4 [.ref ar, .int (zz ↑sz)]), (k, ob 4 [.ref ar2, .int (zz ↑sz2)]), (q, ob 5 [.ref qp, .ref qc, .ref qv, .int (zz ↑ns)]), (z, ob 2 [.ref zK, .ref zL, .ref zQ, .ref zW, .ref zX, .ref zY, .ref zS, .int (zz (↑((R0).2.1))), .int (zz (↑((R0).2.2.2.2.2.2.1)))]), (zK, aI E 7 ((R0).2.2.1)), (zL, aI E 7 ((R0).2.2.2.1)), (zQ, aI E 7 ((R0).2.2.2.2.1)), (zW, aI E 10 ((R0).2.2.2.2.2.1)), (zX, aI E 6 ((R0).2.2.2.2.2.2.2.1)), (zY, aI E 6 ((R0).2.2.2.2.2.2.2.2.1)), (zS, hO ((R0).2.2.2.2.2.2.2.2.2)), (s, ob 3 [.ref sg, .ref nm, .int (zz ↑len), .int (zz ↑a2)]), (sg, aC E 200 tx), (nm, aI E 4 t2), (p, ob 2 [.ref pK, .ref pL, .ref pQ, .ref pW, .ref pX, .ref pY, .ref pS, .int (zz (↑((R1).2.1))), .int (zz (↑((R1).2.2.2.2.2.2.1)))]), (pK, aI E 7 ((R1).2.2.1)), (pL, aI E 7 ((R1).2.2.2.1)), (pQ, aI E 7 ((R1).2.2.2.2.1)), (pW, aI E 10 ((R1).2.2.2.2.2.1)), (pX, aI E 6 ((R1).2.2.2.2.2.2.2.1)), (pY, aI E 6 ((R1).2.2.2.2.2.2.2.2.1)), (pS, hO ((R1).2.2.2.2.2.2.2.2.2))]) (wr := [(x, ob 6 [.ref s, .ref p, .ref z, .ref a, .ref b, .ref c, .ref f, .ref k, .ref q, .ref o]), (f, ob 4 [.ref ar, .int (zz ↑sz)]), (k, ob 4 [.ref ar2, .int (zz ↑sz2)]), (q, ob 5 [.ref qp, .ref qc, .ref qv, .int (zz ↑ns)]), (z, ob 2 [.ref zK, .ref zL, .ref zQ, .ref zW, .ref zX, .ref zY, .ref zS, .int (zz (↑((R0).2.1))), .int (zz (↑((R0).2.2.2.2.2.2.1)))]), (zK, aI E 7 ((R0).2.2.1)), (zL, aI E 7 ((R0).2.2.2.1)), (zQ, aI E 7 ((R0).2.2.2.2.1)), (zW, aI E 10 ((R0).2.2.2.2.2.1)), (zX, aI E 6 ((R0).2.2.2.2.2.2.2.1)), (zY, aI E 6 ((R0).2.2.2.2.2.2.2.2.1)), (zS, hO ((R0).2.2.2.2.2.2.2.2.2)), (s, ob 3 [.ref sg, .ref nm, .int (zz ↑len), .int (zz ↑a2)]), (sg, aC E 200 tx), (nm, aI E 4 t2), (p, ob 2 [.ref pK, .ref pL, .ref pQ, .ref pW, .ref pX, .ref pY, .ref pS, .int (zz (↑((R1).2.1))), .int (zz (↑((R1).2.2.2.2.2.2.1)))]), (pK, aI E 7 ((R1).2.2.1)), (pL, aI E 7 ((R1).2.2.2.1)), (pQ, aI E 7 ((R1).2.2.2.2.1)), (pW, aI E 10 ((R1).2.2.2.2.2.1)), (pX, aI E 6 ((R1).2.2.2.2.2.2.2.1)), (pY, aI E 6 ((R1).2.2.2.2.2.2.2.2.1))]) (call_V (q0 := 0) kX6_93 (c_copy E (d + 4) a pS h ((R1).2.2.2.2.2.2.2.2.2)) rfl rfl rfl rfl (by omega) (by decide) (Nat.le_of_ble_eq_true rfl) (Nat.le_of_ble_eq_true rfl) dX6_lay_53) [1, 23] [0, 2, 3, 4, 5, 6, 7, 8, 9, 10, 11, 12, 13, 14, 15, 16, 17, 18, 19, 20, 21, 22] [0, 22, 1, 2, 3, 4, 5, 6, 7, 8, 9, 10, 11, 12, 13, 14, 15, 16, 17, 18, 19, 20, 21, 23] rfl rfl rfl rfl rfl rfl rfl ?_
      refine rr_aload_n 0 dX6_lay_56 rfl ?_
      refine rr_get fX6_44 0 rfl rfl dX6_lay_57 ?_
      refine rr_iconst dX6_lay_60 ?_
      refine rr_put (ws2 := [(x, ob 6 [.ref s, .ref p, .ref z, .ref a, .ref b, .ref c, .ref f, .ref k, .ref q, .ref o]), (a, hO ((R1).2.2.2.2.2.2.2.2.2)), (f, ob 4 [.ref ar, .int (zz 0)]), (k, ob 4 [.ref ar2, .int (zz ↑sz2)]), (q, ob 5 [.ref qp, .ref qc, .ref qv, .int (zz ↑ns)]), (z, ob 2 [.ref zK, .ref zL, .ref zQ, .ref zW, .ref zX, .ref zY, .ref zS, .int (zz (↑((R0).2.1))), .int (zz (↑((R0).2.2.2.2.2.2.1)))]), (zK, aI E 7 ((R0).2.2.1)), (zL, aI E 7 ((R0).2.2.2.1)), (zQ, aI E 7 ((R0).2.2.2.2.1)), (zW, aI E 10 ((R0).2.2.2.2.2.1)), (zX, aI E 6 ((R0).2.2.2.2.2.2.2.1)), (zY, aI E 6 ((R0).2.2.2.2.2.2.2.2.1)), (zS, hO ((R0).2.2.2.2.2.2.2.2.2)), (s, ob 3 [.ref sg, .ref nm, .int (zz ↑len), .int (zz ↑a2)]), (sg, aC E 200 tx), (nm, aI E 4 t2), (p, ob 2 [.ref pK, .ref pL, .ref pQ, .ref pW, .ref pX, .ref pY, .ref pS, .int (zz (↑((R1).2.1))), .int (zz (↑((R1).2.2.2.2.2.2.1)))]), (pK, aI E 7 ((R1).2.2.1)), (pL, aI E 7 ((R1).2.2.2.1)), (pQ, aI E 7 ((R1).2.2.2.2.1)), (pW, aI E 10 ((R1).2.2.2.2.2.1)), (pX, aI E 6 ((R1).2.2.2.2.2.2.2.1)), (pY, aI E 6 ((R1).2.2.2.2.2.2.2.2.1)), (pS, hO ((R1).2.2.2.2.2.2.2.2.2))]) fX6_100 2 rfl rfl rfl (Nat.le_of_ble_eq_true rfl) rfl dX6_lay_61 ?_
      refine rr_aload_n 0 dX6_lay_64 rfl ?_
      refine rr_get fX6_48 0 rfl rfl dX6_lay_65 ?_
      refine rr_iconst dX6_lay_68 ?_
      refine rr_put (ws2 := [(x, ob 6 [.ref s, .ref p, .ref z, .ref a, .ref b, .ref c, .ref f, .ref k, .ref q, .ref o]), (a, hO ((R1).2.2.2.2.2.2.2.2.2)), (f, ob 4 [.ref ar, .int (zz 0)]), (k, ob 4 [.ref ar2, .int (zz 0)]), (q, ob 5 [.ref qp, .ref qc, .ref qv, .int (zz ↑ns)]), (z, ob 2 [.ref zK, .ref zL, .ref zQ, .ref zW, .ref zX, .ref zY, .ref zS, .int (zz (↑((R0).2.1))), .int (zz (↑((R0).2.2.2.2.2.2.1)))]), (zK, aI E 7 ((R0).2.2.1)), (zL, aI E 7 ((R0).2.2.2.1)), (zQ, aI E 7 ((R0).2.2.2.2.1)), (zW, aI E 10 ((R0).2.2.2.2.2.1)), (zX, aI E 6 ((R0).2.2.2.2.2.2.2.1)), (zY, aI E 6 ((R0).2.2.2.2.2.2.2.2.1)), (zS, hO ((R0).2.2.2.2.2.2.2.2.2)), (s, ob 3 [.ref sg, .ref nm, .int (zz ↑len), .int (zz ↑a2)]), (sg, aC E 200 tx), (nm, aI E 4 t2), (p, ob 2 [.ref pK, .ref pL, .ref pQ, .ref pW, .ref pX, .ref pY, .ref pS, .int (zz (↑((R1).2.1))), .int (zz (↑((R1).2.2.2.2.2.2.1)))]), (pK, aI E 7 ((R1).2.2.1)), (pL, aI E 7 ((R1).2.2.2.1)), (pQ, aI E 7 ((R1).2.2.2.2.1)), (pW, aI E 10 ((R1).2.2.2.2.2.1)), (pX, aI E 6 ((R1).2.2.2.2.2.2.2.1)), (pY, aI E 6 ((R1).2.2.2.2.2.2.2.2.1)), (pS, hO ((R1).2.2.2.2.2.2.2.2.2))]) fX6_100 3 rfl rfl rfl (Nat.le_of_ble_eq_true rfl) rfl dX6_lay_69 ?_
      refine rr_aload_n 0 dX6_lay_72 rfl ?_
      refine rr_get fX6_54 0 rfl rfl dX6_lay_73 ?_
      refine rr_iconst dX6_lay_76 ?_
      refine rr_put (ws2 := [(x, ob 6 [.ref s, .ref p, .ref z, .ref a, .ref b, .ref c, .ref f, .ref k, .ref q, .ref o]), (a, hO ((R1).2.2.2.2.2.2.2.2.2)), (f, ob 4 [.ref ar, .int (zz 0)]), (k, ob 4 [.ref ar2, .int (zz 0)]), (q, ob 5 [.ref qp, .ref qc, .ref qv, .int (zz 0)]), (z, ob 2 [.ref zK, .ref zL, .ref zQ, .ref zW, .ref zX, .ref zY, .ref zS, .int (zz (↑((R0).2.1))), .int (zz (↑((R0).2.2.2.2.2.2.1)))]), (zK, aI E 7 ((R0).2.2.1)), (zL, aI E 7 ((R0).2.2.2.1)), (zQ, aI E 7 ((R0).2.2.2.2.1)), (zW, aI E 10 ((R0).2.2.2.2.2.1)), (zX, aI E 6 ((R0).2.2.2.2.2.2.2.1)), (zY, aI E 6 ((R0).2.2.2.2.2.2.2.2.1)), (zS, hO ((R0).2.2.2.2.2.2.2.2.2)), (s, ob 3 [.ref sg, .ref nm, .int (zz ↑len), .int (zz ↑a2)]), (sg, aC E 200 tx), (nm, aI E 4 t2), (p, ob 2 [.ref pK, .ref pL, .ref pQ, .ref pW, .ref pX, .ref pY, .ref pS, .int (zz (↑((R1).2.1))), .int (zz (↑((R1).2.2.2.2.2.2.1)))]), (pK, aI E 7 ((R1).2.2.1)), (pL, aI E 7 ((R1).2.2.2.1)), (pQ, aI E 7 ((R1).2.2.2.2.1)), (pW, aI E 10 ((R1).2.2.2.2.2.1)), (pX, aI E 6 ((R1).2.2.2.2.2.2.2.1)), (pY, aI E 6 ((R1).2.2.2.2.2.2.2.2.1)), (pS, hO ((R1).2.2.2.2.2.2.2.2.2))]) fX6_103 4 rfl rfl rfl (Nat.le_of_ble_eq_true rfl) rfl dX6_lay_77 ?_
      refine rr_aload_n 0 dX6_lay_80 rfl ?_
      refine rr_get fX6_19 0 rfl rfl dX6_lay_81 ?_
      refine rr_get fX6_97 16 rfl rfl dX6_lay_84 ?_
      exact rr_iret dX6_lay_87 rfl rfl ⟨a2, t1, t2, R1, ht1, ht2, hR1, rfl, perm_idx [0, 1, 2, 3, 4, 13, 14, 15, 5, 6, 7, 8, 9, 10, 11, 12, 16, 17, 18, 19, 20, 21, 22, 23] 24 rfl rfl (by decide)⟩
    · skip
      exfalso; omega
