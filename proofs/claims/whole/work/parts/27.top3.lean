set_option maxRecDepth 100000 in
set_option maxHeartbeats 1000000 in
theorem c_safe (E : Ev) (d : Nat) (x s p z a b c f k q o : Nat) (pK pL pQ pW pX pY pS : Nat) (np nr : Nat) (rx ry : Nat → Int) (kd lf qt wd h g0 : Nat → Int) (hp : pOK np kd lf qt wd) (ho : hOK h) (hr : rOK nr rx ry) : SP E mX6_safe (d + 4) 0 0 [.ref x] [(x, ob 6 [.ref s, .ref p, .ref z, .ref a, .ref b, .ref c, .ref f, .ref k, .ref q, .ref o]), (p, ob 2 [.ref pK, .ref pL, .ref pQ, .ref pW, .ref pX, .ref pY, .ref pS, .int (zz ↑np), .int (zz ↑nr)]), (pK, aI E 7 kd), (pL, aI E 7 lf), (pQ, aI E 7 qt), (pW, aI E 10 wd), (pX, aI E 6 rx), (pY, aI E 6 ry), (a, hO h), (b, hO g0)] (fun v w => v = some (.int (zz ((safeA np nr kd lf qt wd rx ry h : Nat) : Int))) ∧ ∃ g1 : Nat → Int, w = [(x, ob 6 [.ref s, .ref p, .ref z, .ref a, .ref b, .ref c, .ref f, .ref k, .ref q, .ref o]), (p, ob 2 [.ref pK, .ref pL, .ref pQ, .ref pW, .ref pX, .ref pY, .ref pS, .int (zz ↑np), .int (zz ↑nr)]), (pK, aI E 7 kd), (pL, aI E 7 lf), (pQ, aI E 7 qt), (pW, aI E 10 wd), (pX, aI E 6 rx), (pY, aI E 6 ry), (a, hO h), (b, hO g1)]) := by
  show RR E mX6_safe (d + 4) 0 0 0 [(0, .ref x)] [] [(x, ob 6 [.ref s, .ref p, .ref z, .ref a, .ref b, .ref c, .ref f, .ref k, .ref q, .ref o]), (p, ob 2 [.ref pK, .ref pL, .ref pQ, .ref pW, .ref pX, .ref pY, .ref pS, .int (zz ↑np), .int (zz ↑nr)]), (pK, aI E 7 kd), (pL, aI E 7 lf), (pQ, aI E 7 qt), (pW, aI E 10 wd), (pX, aI E 6 rx), (pY, aI E 6 ry), (a, hO h), (b, hO g0)] (fun v w => v = some (.int (zz ((safeA np nr kd lf qt wd rx ry h : Nat) : Int))) ∧ ∃ g1 : Nat → Int, w = [(x, ob 6 [.ref s, .ref p, .ref z, .ref a, .ref b, .ref c, .ref f, .ref k, .ref q, .ref o]), (p, ob 2 [.ref pK, .ref pL, .ref pQ, .ref pW, .ref pX, .ref pY, .ref pS, .int (zz ↑np), .int (zz ↑nr)]), (pK, aI E 7 kd), (pL, aI E 7 lf), (pQ, aI E 7 qt), (pW, aI E 10 wd), (pX, aI E 6 rx), (pY, aI E 6 ry), (a, hO h), (b, hO g1)])
  obtain ⟨o0, o1, o2, o3, o5, o6⟩ := id ho
  have hn := hp.1
  by_cases hd : h 2 = 0
  · skip
    refine rr_aload_n 0 dX6_safe_0 rfl ?_
    refine rr_get fX6_29 0 rfl rfl dX6_safe_1 ?_
    refine rr_callFi (ws2 := [(x, ob 6 [.ref s, .ref p, .ref z, .ref a, .ref b, .ref c, .ref f, .ref k, .ref q, .ref o]), (p, ob 2 [.ref pK, .ref pL, .ref pQ, .ref pW, .ref pX, .ref pY, .ref pS, .int (zz ↑np), .int (zz ↑nr)]), (pK, aI E 7 kd), (pL, aI E 7 lf), (pQ, aI E 7 qt), (pW, aI E 10 wd), (pX, aI E 6 rx), (pY, aI E 6 ry), (a, hO h), (b, hO g0)]) (wr := [(x, ob 6 [.ref s, .ref p, .ref z, .ref a, .ref b, .ref c, .ref f, .ref k, .ref q, .ref o]), (p, ob 2 [.ref pK, .ref pL, .ref pQ, .ref pW, .ref pX, .ref pY, .ref pS, .int (zz ↑np), .int (zz ↑nr)]), (pK, aI E 7 kd), (pL, aI E 7 lf), (pQ, aI E 7 qt), (pW, aI E 10 wd), (pX, aI E 6 rx), (pY, aI E 6 ry), (b, hO g0)]) (call_V (q0 := 0) kX6_138 (c_isDown E (d + 3) a h (by omega)) rfl rfl rfl rfl (by omega) (by decide) (Nat.le_of_ble_eq_true rfl) (Nat.le_of_ble_eq_true rfl) dX6_safe_4) [8] [0, 1, 2, 3, 4, 5, 6, 7, 9] [0, 1, 2, 3, 4, 5, 6, 7, 9, 8] rfl rfl rfl rfl rfl rfl rfl ?_
    refine rr_if_eqD 12 dX6_safe_7 (by decide) (fun c_1 => ?_) (fun c_1 => ?_)
    · skip
      exfalso; omega
    · skip
      refine rr_iconst dX6_safe_10 ?_
      exact rr_iret dX6_safe_11 rfl rfl ⟨by unfold safeA; rw [if_pos hd]; rfl, g0, rfl⟩
  · skip
    have hA : safeA np nr kd lf qt wd rx ry h = bitsTo (fun i => !fallF nr rx ry (tnF np kd lf qt wd h i)) np := if_neg hd
    have lp : ∀ (n i : Nat) (g1 : Nat → Int), i + n = np → RR E mX6_safe (d + 4) 0 0 16 [(0, .ref x), (1, .int (zz (↑(bitsTo (fun i => !fallF nr rx ry (tnF np kd lf qt wd h i)) i)))), (2, .int (zz ↑i))] [] [(x, ob 6 [.ref s, .ref p, .ref z, .ref a, .ref b, .ref c, .ref f, .ref k, .ref q, .ref o]), (p, ob 2 [.ref pK, .ref pL, .ref pQ, .ref pW, .ref pX, .ref pY, .ref pS, .int (zz ↑np), .int (zz ↑nr)]), (pK, aI E 7 kd), (pL, aI E 7 lf), (pQ, aI E 7 qt), (pW, aI E 10 wd), (pX, aI E 6 rx), (pY, aI E 6 ry), (a, hO h), (b, hO g1)] (fun v w => v = some (.int (zz ((safeA np nr kd lf qt wd rx ry h : Nat) : Int))) ∧ ∃ g1 : Nat → Int, w = [(x, ob 6 [.ref s, .ref p, .ref z, .ref a, .ref b, .ref c, .ref f, .ref k, .ref q, .ref o]), (p, ob 2 [.ref pK, .ref pL, .ref pQ, .ref pW, .ref pX, .ref pY, .ref pS, .int (zz ↑np), .int (zz ↑nr)]), (pK, aI E 7 kd), (pL, aI E 7 lf), (pQ, aI E 7 qt), (pW, aI E 10 wd), (pX, aI E 6 rx), (pY, aI E 6 ry), (a, hO h), (b, hO g1)]) := by
      intro n
      induction n with
      | zero =>
        intro i g1 h1
        obtain rfl : i = np := by omega
        refine rr_iload_n 2 dX6_safe_16 rfl ?_
        refine rr_aload_n 0 dX6_safe_17 rfl ?_
        refine rr_get fX6_19 0 rfl rfl dX6_safe_18 ?_
        refine rr_get fX6_97 1 rfl rfl dX6_safe_21 ?_
        refine rr_icmp_ge 76 dX6_safe_24 (by decide) (by omega) (by omega) (fun c_2 => ?_) (fun c_2 => ?_)
        · skip
          refine rr_iload_n 1 dX6_safe_76 rfl ?_
          exact rr_iret dX6_safe_77 rfl rfl ⟨by rw [hA], g1, rfl⟩
        · skip
          exfalso; omega
      | succ n ih =>
        intro i g1 h1
        have hi : i < np := by omega
        refine rr_iload_n 2 dX6_safe_16 rfl ?_
        refine rr_aload_n 0 dX6_safe_17 rfl ?_
        refine rr_get fX6_19 0 rfl rfl dX6_safe_18 ?_
        refine rr_get fX6_97 1 rfl rfl dX6_safe_21 ?_
        refine rr_icmp_ge 76 dX6_safe_24 (by decide) (by omega) (by omega) (fun c_3 => ?_) (fun c_3 => ?_)
        · skip
          exfalso; omega
        · skip
          refine rr_aload_n 0 dX6_safe_27 rfl ?_
          refine rr_get fX6_33 0 rfl rfl dX6_safe_28 ?_
          refine rr_aload_n 0 dX6_safe_31 rfl ?_
          refine rr_get fX6_29 0 rfl rfl dX6_safe_32 ?_
          refine rr_callFv (ws2 := [(x, ob 6 [.ref s, .ref p, .ref z, .ref a, .ref b, .ref c, .ref f, .ref k, .ref q, .ref o]), (p, ob 2 [.ref pK, .ref pL, .ref pQ, .ref pW, .ref pX, .ref pY, .ref pS, .int (zz ↑np), .int (zz ↑nr)]), (pK, aI E 7 kd), (pL, aI E 7 lf), (pQ, aI E 7 qt), (pW, aI E 10 wd), (pX, aI E 6 rx), (pY, aI E 6 ry), (a, hO h), (b, hO h)]) (wr := [(x, ob 6 [.ref s, .ref p, .ref z, .ref a, .ref b, .ref c, .ref f, .ref k, .ref q, .ref o]), (p, ob 2 [.ref pK, .ref pL, .ref pQ, .ref pW, .ref pX, .ref pY, .ref pS, .int (zz ↑np), .int (zz ↑nr)]), (pK, aI E 7 kd), (pL, aI E 7 lf), (pQ, aI E 7 qt), (pW, aI E 10 wd), (pX, aI E 6 rx), (pY, aI E 6 ry)]) (call_V (q0 := 0) kX6_93 (c_copy E (d + 3) b a g1 h) rfl rfl rfl rfl (by omega) (by decide) (Nat.le_of_ble_eq_true rfl) (Nat.le_of_ble_eq_true rfl) dX6_safe_35) [9, 8] [0, 1, 2, 3, 4, 5, 6, 7] [0, 1, 2, 3, 4, 5, 6, 7, 9, 8] rfl rfl rfl rfl rfl rfl rfl ?_
          refine rr_aload_n 0 dX6_safe_38 rfl ?_
          refine rr_get fX6_19 0 rfl rfl dX6_safe_39 ?_
          refine rr_aload_n 0 dX6_safe_42 rfl ?_
          refine rr_get fX6_33 0 rfl rfl dX6_safe_43 ?_
          refine rr_iload_n 2 dX6_safe_46 rfl ?_
          refine rr_callFv (ws2 := [(x, ob 6 [.ref s, .ref p, .ref z, .ref a, .ref b, .ref c, .ref f, .ref k, .ref q, .ref o]), (p, ob 2 [.ref pK, .ref pL, .ref pQ, .ref pW, .ref pX, .ref pY, .ref pS, .int (zz ↑np), .int (zz ↑nr)]), (pK, aI E 7 kd), (pL, aI E 7 lf), (pQ, aI E 7 qt), (pW, aI E 10 wd), (pX, aI E 6 rx), (pY, aI E 6 ry), (a, hO h), (b, hO (tnF np kd lf qt wd h i))]) (wr := [(x, ob 6 [.ref s, .ref p, .ref z, .ref a, .ref b, .ref c, .ref f, .ref k, .ref q, .ref o]), (pX, aI E 6 rx), (pY, aI E 6 ry), (a, hO h)]) (call_V (q0 := 0) kX6_145 (c_turnPeg E (d + 0) p pK pL pQ pW pX pY pS np nr b kd lf qt wd h i hp ho (by omega)) rfl rfl rfl rfl (by omega) (by decide) (Nat.le_of_ble_eq_true rfl) (Nat.le_of_ble_eq_true rfl) dX6_safe_47) [1, 2, 3, 4, 5, 9] [0, 6, 7, 8] [0, 4, 5, 6, 7, 8, 1, 2, 3, 9] rfl rfl rfl rfl rfl rfl rfl ?_
          refine rr_aload_n 0 dX6_safe_50 rfl ?_
          refine rr_get fX6_19 0 rfl rfl dX6_safe_51 ?_
          refine rr_aload_n 0 dX6_safe_54 rfl ?_
          refine rr_get fX6_33 0 rfl rfl dX6_safe_55 ?_
          refine rr_callFi (ws2 := [(x, ob 6 [.ref s, .ref p, .ref z, .ref a, .ref b, .ref c, .ref f, .ref k, .ref q, .ref o]), (p, ob 2 [.ref pK, .ref pL, .ref pQ, .ref pW, .ref pX, .ref pY, .ref pS, .int (zz ↑np), .int (zz ↑nr)]), (pK, aI E 7 kd), (pL, aI E 7 lf), (pQ, aI E 7 qt), (pW, aI E 10 wd), (pX, aI E 6 rx), (pY, aI E 6 ry), (a, hO h), (b, hO (tnF np kd lf qt wd h i))]) (wr := [(x, ob 6 [.ref s, .ref p, .ref z, .ref a, .ref b, .ref c, .ref f, .ref k, .ref q, .ref o]), (pK, aI E 7 kd), (pL, aI E 7 lf), (pQ, aI E 7 qt), (pW, aI E 10 wd), (a, hO h)]) (call_V (q0 := 0) kX6_183 (c_hasFallen E (d + 2) p pK pL pQ pW pX pY pS np nr b rx ry (tnF np kd lf qt wd h i) hr (tnF_ok hp ho (by omega : i < np))) rfl rfl rfl rfl (by omega) (by decide) (Nat.le_of_ble_eq_true rfl) (Nat.le_of_ble_eq_true rfl) dX6_safe_58) [1, 6, 7, 9] [0, 2, 3, 4, 5, 8] [0, 6, 1, 2, 3, 4, 7, 8, 5, 9] rfl rfl rfl rfl rfl rfl rfl ?_
          refine rr_if_neB 70 dX6_safe_61 (by decide) (fun hfl => ?_) (fun hfl => ?_)
          · skip
            refine rr_iinc (lv2 := [(0, .ref x), (1, .int (zz (↑(bitsTo (fun i => !fallF nr rx ry (tnF np kd lf qt wd h i)) i)))), (2, .int (zz (↑(i + 1))))]) 2 dX6_safe_70 rfl (by decide) rfl ?_
            refine rr_goto 16 dX6_safe_73 (by decide) ?_
            refine RR.eq (lv2 := [(0, .ref x), (1, .int (zz (↑(bitsTo (fun i => !fallF nr rx ry (tnF np kd lf qt wd h i)) (i + 1))))), (2, .int (zz (↑(i + 1))))]) rfl (by rw [bitsTo, if_neg (by intro z; exact absurd (z.symm.trans (congrArg Bool.not hfl)) (by decide))]) rfl rfl ?_
            exact ih (i + 1) (tnF np kd lf qt wd h i) (by omega)
          · skip
            refine rr_iload_n 1 dX6_safe_64 rfl ?_
            refine rr_iconst dX6_safe_65 ?_
            refine rr_iload_n 2 dX6_safe_66 rfl ?_
            refine rr_ishl (n := 1) (k := i) dX6_safe_67 (by omega) (by have := Nat.pow_le_pow_right (n := 2) (by omega) (show i ≤ 9 by omega); omega) ?_
            refine rr_top (b := ((2 ^ i : Nat) : Int)) (by rw [Nat.one_mul]) ?_
            refine rr_ior (a := bitsTo (fun i => !fallF nr rx ry (tnF np kd lf qt wd h i)) i) (b := 2 ^ i) dX6_safe_68 ?_
            refine rr_top (b := ↑(bitsTo (fun i => !fallF nr rx ry (tnF np kd lf qt wd h i)) (i + 1))) (by rw [bitsTo, if_pos (by exact congrArg Bool.not hfl)]) ?_
            refine rr_istore_n (lv2 := [(0, .ref x), (1, .int (zz (↑(bitsTo (fun i => !fallF nr rx ry (tnF np kd lf qt wd h i)) (i + 1))))), (2, .int (zz ↑i))]) dX6_safe_69 (by decide) rfl ?_
            refine rr_iinc (lv2 := [(0, .ref x), (1, .int (zz (↑(bitsTo (fun i => !fallF nr rx ry (tnF np kd lf qt wd h i)) (i + 1))))), (2, .int (zz (↑(i + 1))))]) 2 dX6_safe_70 rfl (by decide) rfl ?_
            refine rr_goto 16 dX6_safe_73 (by decide) ?_
            exact ih (i + 1) (tnF np kd lf qt wd h i) (by omega)
    refine rr_aload_n 0 dX6_safe_0 rfl ?_
    refine rr_get fX6_29 0 rfl rfl dX6_safe_1 ?_
    refine rr_callFi (ws2 := [(x, ob 6 [.ref s, .ref p, .ref z, .ref a, .ref b, .ref c, .ref f, .ref k, .ref q, .ref o]), (p, ob 2 [.ref pK, .ref pL, .ref pQ, .ref pW, .ref pX, .ref pY, .ref pS, .int (zz ↑np), .int (zz ↑nr)]), (pK, aI E 7 kd), (pL, aI E 7 lf), (pQ, aI E 7 qt), (pW, aI E 10 wd), (pX, aI E 6 rx), (pY, aI E 6 ry), (a, hO h), (b, hO g0)]) (wr := [(x, ob 6 [.ref s, .ref p, .ref z, .ref a, .ref b, .ref c, .ref f, .ref k, .ref q, .ref o]), (p, ob 2 [.ref pK, .ref pL, .ref pQ, .ref pW, .ref pX, .ref pY, .ref pS, .int (zz ↑np), .int (zz ↑nr)]), (pK, aI E 7 kd), (pL, aI E 7 lf), (pQ, aI E 7 qt), (pW, aI E 10 wd), (pX, aI E 6 rx), (pY, aI E 6 ry), (b, hO g0)]) (call_V (q0 := 0) kX6_138 (c_isDown E (d + 3) a h (by omega)) rfl rfl rfl rfl (by omega) (by decide) (Nat.le_of_ble_eq_true rfl) (Nat.le_of_ble_eq_true rfl) dX6_safe_4) [8] [0, 1, 2, 3, 4, 5, 6, 7, 9] [0, 1, 2, 3, 4, 5, 6, 7, 9, 8] rfl rfl rfl rfl rfl rfl rfl ?_
    refine rr_if_eqD 12 dX6_safe_7 (by decide) (fun c_4 => ?_) (fun c_4 => ?_)
    · skip
      refine rr_iconst dX6_safe_12 ?_
      refine rr_istore_n (lv2 := [(0, .ref x), (1, .int (zz 0))]) dX6_safe_13 (by decide) rfl ?_
      refine rr_iconst dX6_safe_14 ?_
      refine rr_istore_n (lv2 := [(0, .ref x), (1, .int (zz 0)), (2, .int (zz 0))]) dX6_safe_15 (by decide) rfl ?_
      exact lp np 0 g0 (by omega)
    · skip
      exfalso; omega
set_option maxRecDepth 100000 in
set_option maxHeartbeats 1000000 in
theorem c_both_y (E : Ev) (d : Nat) (x s p z a b c f k q o : Nat) (pK pL pQ pW pX pY pS : Nat) (np nr : Nat) (t : Nat) (kd lf qt wd h : Nat → Int) (hp : pOK np kd lf qt wd) (ho : hOK h) (i j : Nat) (hi : i < np) (hj : j < np) (hc : ¬ h 2 = 0 ∧ ¬ (tnF np kd lf qt wd h i) 2 = 0) : SP E mX6_turnBoth (d + 4) 0 0 [.ref x, .ref t, .int (zz ↑i), .int (zz ↑j)] [(x, ob 6 [.ref s, .ref p, .ref z, .ref a, .ref b, .ref c, .ref f, .ref k, .ref q, .ref o]), (p, ob 2 [.ref pK, .ref pL, .ref pQ, .ref pW, .ref pX, .ref pY, .ref pS, .int (zz ↑np), .int (zz ↑nr)]), (pK, aI E 7 kd), (pL, aI E 7 lf), (pQ, aI E 7 qt), (pW, aI E 10 wd), (t, hO h)] (FP (some (.int (zz 1))) [(x, ob 6 [.ref s, .ref p, .ref z, .ref a, .ref b, .ref c, .ref f, .ref k, .ref q, .ref o]), (p, ob 2 [.ref pK, .ref pL, .ref pQ, .ref pW, .ref pX, .ref pY, .ref pS, .int (zz ↑np), .int (zz ↑nr)]), (pK, aI E 7 kd), (pL, aI E 7 lf), (pQ, aI E 7 qt), (pW, aI E 10 wd), (t, hO (tnF np kd lf qt wd (tnF np kd lf qt wd h i) j))]) := by
  show RR E mX6_turnBoth (d + 4) 0 0 0 [(0, .ref x), (1, .ref t), (2, .int (zz ↑i)), (3, .int (zz ↑j))] [] [(x, ob 6 [.ref s, .ref p, .ref z, .ref a, .ref b, .ref c, .ref f, .ref k, .ref q, .ref o]), (p, ob 2 [.ref pK, .ref pL, .ref pQ, .ref pW, .ref pX, .ref pY, .ref pS, .int (zz ↑np), .int (zz ↑nr)]), (pK, aI E 7 kd), (pL, aI E 7 lf), (pQ, aI E 7 qt), (pW, aI E 10 wd), (t, hO h)] (FP (some (.int (zz 1))) [(x, ob 6 [.ref s, .ref p, .ref z, .ref a, .ref b, .ref c, .ref f, .ref k, .ref q, .ref o]), (p, ob 2 [.ref pK, .ref pL, .ref pQ, .ref pW, .ref pX, .ref pY, .ref pS, .int (zz ↑np), .int (zz ↑nr)]), (pK, aI E 7 kd), (pL, aI E 7 lf), (pQ, aI E 7 qt), (pW, aI E 10 wd), (t, hO (tnF np kd lf qt wd (tnF np kd lf qt wd h i) j))])
  obtain ⟨o0, o1, o2, o3, o5, o6⟩ := id ho
  have ho1 := tnF_ok hp ho hi
  obtain ⟨q0, q1, q2, q3, q5, q6⟩ := id ho1
  refine rr_aload_n 1 dX6_turnBoth_0 rfl ?_
  refine rr_callFi (ws2 := [(x, ob 6 [.ref s, .ref p, .ref z, .ref a, .ref b, .ref c, .ref f, .ref k, .ref q, .ref o]), (p, ob 2 [.ref pK, .ref pL, .ref pQ, .ref pW, .ref pX, .ref pY, .ref pS, .int (zz ↑np), .int (zz ↑nr)]), (pK, aI E 7 kd), (pL, aI E 7 lf), (pQ, aI E 7 qt), (pW, aI E 10 wd), (t, hO h)]) (wr := [(x, ob 6 [.ref s, .ref p, .ref z, .ref a, .ref b, .ref c, .ref f, .ref k, .ref q, .ref o]), (p, ob 2 [.ref pK, .ref pL, .ref pQ, .ref pW, .ref pX, .ref pY, .ref pS, .int (zz ↑np), .int (zz ↑nr)]), (pK, aI E 7 kd), (pL, aI E 7 lf), (pQ, aI E 7 qt), (pW, aI E 10 wd)]) (call_V (q0 := 0) kX6_138 (c_isDown E (d + 3) t h (by omega)) rfl rfl rfl rfl (by omega) (by decide) (Nat.le_of_ble_eq_true rfl) (Nat.le_of_ble_eq_true rfl) dX6_turnBoth_1) [6] [0, 1, 2, 3, 4, 5] [0, 1, 2, 3, 4, 5, 6] rfl rfl rfl rfl rfl rfl rfl ?_
  refine rr_if_eqD 9 dX6_turnBoth_4 (by decide) (fun c_1 => ?_) (fun c_1 => ?_)
  · skip
    refine rr_aload_n 0 dX6_turnBoth_9 rfl ?_
    refine rr_get fX6_19 0 rfl rfl dX6_turnBoth_10 ?_
    refine rr_aload_n 1 dX6_turnBoth_13 rfl ?_
    refine rr_iload_n 2 dX6_turnBoth_14 rfl ?_
    refine rr_callFv (ws2 := [(x, ob 6 [.ref s, .ref p, .ref z, .ref a, .ref b, .ref c, .ref f, .ref k, .ref q, .ref o]), (p, ob 2 [.ref pK, .ref pL, .ref pQ, .ref pW, .ref pX, .ref pY, .ref pS, .int (zz ↑np), .int (zz ↑nr)]), (pK, aI E 7 kd), (pL, aI E 7 lf), (pQ, aI E 7 qt), (pW, aI E 10 wd), (t, hO (tnF np kd lf qt wd h i))]) (wr := [(x, ob 6 [.ref s, .ref p, .ref z, .ref a, .ref b, .ref c, .ref f, .ref k, .ref q, .ref o])]) (call_V (q0 := 0) kX6_145 (c_turnPeg E (d + 0) p pK pL pQ pW pX pY pS np nr t kd lf qt wd h i hp ho (by omega)) rfl rfl rfl rfl (by omega) (by decide) (Nat.le_of_ble_eq_true rfl) (Nat.le_of_ble_eq_true rfl) dX6_turnBoth_15) [1, 2, 3, 4, 5, 6] [0] [0, 1, 2, 3, 4, 5, 6] rfl rfl rfl rfl rfl rfl rfl ?_
    refine rr_aload_n 1 dX6_turnBoth_18 rfl ?_
    refine rr_callFi (ws2 := [(x, ob 6 [.ref s, .ref p, .ref z, .ref a, .ref b, .ref c, .ref f, .ref k, .ref q, .ref o]), (p, ob 2 [.ref pK, .ref pL, .ref pQ, .ref pW, .ref pX, .ref pY, .ref pS, .int (zz ↑np), .int (zz ↑nr)]), (pK, aI E 7 kd), (pL, aI E 7 lf), (pQ, aI E 7 qt), (pW, aI E 10 wd), (t, hO (tnF np kd lf qt wd h i))]) (wr := [(x, ob 6 [.ref s, .ref p, .ref z, .ref a, .ref b, .ref c, .ref f, .ref k, .ref q, .ref o]), (p, ob 2 [.ref pK, .ref pL, .ref pQ, .ref pW, .ref pX, .ref pY, .ref pS, .int (zz ↑np), .int (zz ↑nr)]), (pK, aI E 7 kd), (pL, aI E 7 lf), (pQ, aI E 7 qt), (pW, aI E 10 wd)]) (call_V (q0 := 0) kX6_138 (c_isDown E (d + 3) t (tnF np kd lf qt wd h i) (by omega)) rfl rfl rfl rfl (by omega) (by decide) (Nat.le_of_ble_eq_true rfl) (Nat.le_of_ble_eq_true rfl) dX6_turnBoth_19) [6] [0, 1, 2, 3, 4, 5] [0, 1, 2, 3, 4, 5, 6] rfl rfl rfl rfl rfl rfl rfl ?_
    refine rr_if_eqD 27 dX6_turnBoth_22 (by decide) (fun c_2 => ?_) (fun c_2 => ?_)
    · skip
      refine rr_aload_n 0 dX6_turnBoth_27 rfl ?_
      refine rr_get fX6_19 0 rfl rfl dX6_turnBoth_28 ?_
      refine rr_aload_n 1 dX6_turnBoth_31 rfl ?_
      refine rr_iload_n 3 dX6_turnBoth_32 rfl ?_
      refine rr_callFv (ws2 := [(x, ob 6 [.ref s, .ref p, .ref z, .ref a, .ref b, .ref c, .ref f, .ref k, .ref q, .ref o]), (p, ob 2 [.ref pK, .ref pL, .ref pQ, .ref pW, .ref pX, .ref pY, .ref pS, .int (zz ↑np), .int (zz ↑nr)]), (pK, aI E 7 kd), (pL, aI E 7 lf), (pQ, aI E 7 qt), (pW, aI E 10 wd), (t, hO (tnF np kd lf qt wd (tnF np kd lf qt wd h i) j))]) (wr := [(x, ob 6 [.ref s, .ref p, .ref z, .ref a, .ref b, .ref c, .ref f, .ref k, .ref q, .ref o])]) (call_V (q0 := 0) kX6_145 (c_turnPeg E (d + 0) p pK pL pQ pW pX pY pS np nr t kd lf qt wd (tnF np kd lf qt wd h i) j hp (tnF_ok hp ho (by omega : i < np)) (by omega)) rfl rfl rfl rfl (by omega) (by decide) (Nat.le_of_ble_eq_true rfl) (Nat.le_of_ble_eq_true rfl) dX6_turnBoth_33) [1, 2, 3, 4, 5, 6] [0] [0, 1, 2, 3, 4, 5, 6] rfl rfl rfl rfl rfl rfl rfl ?_
      refine rr_iconst dX6_turnBoth_36 ?_
      exact rr_iret dX6_turnBoth_37 rfl rfl ⟨rfl, rfl⟩
    · skip
      exfalso; omega
  · skip
    exfalso; omega
set_option maxRecDepth 100000 in
set_option maxHeartbeats 1000000 in
theorem c_both_n (E : Ev) (d : Nat) (x s p z a b c f k q o : Nat) (pK pL pQ pW pX pY pS : Nat) (np nr : Nat) (t : Nat) (kd lf qt wd h : Nat → Int) (hp : pOK np kd lf qt wd) (ho : hOK h) (i j : Nat) (hi : i < np) (hj : j < np) (hc : ¬ (¬ h 2 = 0 ∧ ¬ (tnF np kd lf qt wd h i) 2 = 0)) : SP E mX6_turnBoth (d + 4) 0 0 [.ref x, .ref t, .int (zz ↑i), .int (zz ↑j)] [(x, ob 6 [.ref s, .ref p, .ref z, .ref a, .ref b, .ref c, .ref f, .ref k, .ref q, .ref o]), (p, ob 2 [.ref pK, .ref pL, .ref pQ, .ref pW, .ref pX, .ref pY, .ref pS, .int (zz ↑np), .int (zz ↑nr)]), (pK, aI E 7 kd), (pL, aI E 7 lf), (pQ, aI E 7 qt), (pW, aI E 10 wd), (t, hO h)] (fun v w => v = some (.int (zz 0)) ∧ ∃ g1 : Nat → Int, w = [(x, ob 6 [.ref s, .ref p, .ref z, .ref a, .ref b, .ref c, .ref f, .ref k, .ref q, .ref o]), (p, ob 2 [.ref pK, .ref pL, .ref pQ, .ref pW, .ref pX, .ref pY, .ref pS, .int (zz ↑np), .int (zz ↑nr)]), (pK, aI E 7 kd), (pL, aI E 7 lf), (pQ, aI E 7 qt), (pW, aI E 10 wd), (t, hO g1)]) := by
  show RR E mX6_turnBoth (d + 4) 0 0 0 [(0, .ref x), (1, .ref t), (2, .int (zz ↑i)), (3, .int (zz ↑j))] [] [(x, ob 6 [.ref s, .ref p, .ref z, .ref a, .ref b, .ref c, .ref f, .ref k, .ref q, .ref o]), (p, ob 2 [.ref pK, .ref pL, .ref pQ, .ref pW, .ref pX, .ref pY, .ref pS, .int (zz ↑np), .int (zz ↑nr)]), (pK, aI E 7 kd), (pL, aI E 7 lf), (pQ, aI E 7 qt), (pW, aI E 10 wd), (t, hO h)] (fun v w => v = some (.int (zz 0)) ∧ ∃ g1 : Nat → Int, w = [(x, ob 6 [.ref s, .ref p, .ref z, .ref a, .ref b, .ref c, .ref f, .ref k, .ref q, .ref o]), (p, ob 2 [.ref pK, .ref pL, .ref pQ, .ref pW, .ref pX, .ref pY, .ref pS, .int (zz ↑np), .int (zz ↑nr)]), (pK, aI E 7 kd), (pL, aI E 7 lf), (pQ, aI E 7 qt), (pW, aI E 10 wd), (t, hO g1)])
  obtain ⟨o0, o1, o2, o3, o5, o6⟩ := id ho
  have ho1 := tnF_ok hp ho hi
  obtain ⟨q0, q1, q2, q3, q5, q6⟩ := id ho1
  refine rr_aload_n 1 dX6_turnBoth_0 rfl ?_
  refine rr_callFi (ws2 := [(x, ob 6 [.ref s, .ref p, .ref z, .ref a, .ref b, .ref c, .ref f, .ref k, .ref q, .ref o]), (p, ob 2 [.ref pK, .ref pL, .ref pQ, .ref pW, .ref pX, .ref pY, .ref pS, .int (zz ↑np), .int (zz ↑nr)]), (pK, aI E 7 kd), (pL, aI E 7 lf), (pQ, aI E 7 qt), (pW, aI E 10 wd), (t, hO h)]) (wr := [(x, ob 6 [.ref s, .ref p, .ref z, .ref a, .ref b, .ref c, .ref f, .ref k, .ref q, .ref o]), (p, ob 2 [.ref pK, .ref pL, .ref pQ, .ref pW, .ref pX, .ref pY, .ref pS, .int (zz ↑np), .int (zz ↑nr)]), (pK, aI E 7 kd), (pL, aI E 7 lf), (pQ, aI E 7 qt), (pW, aI E 10 wd)]) (call_V (q0 := 0) kX6_138 (c_isDown E (d + 3) t h (by omega)) rfl rfl rfl rfl (by omega) (by decide) (Nat.le_of_ble_eq_true rfl) (Nat.le_of_ble_eq_true rfl) dX6_turnBoth_1) [6] [0, 1, 2, 3, 4, 5] [0, 1, 2, 3, 4, 5, 6] rfl rfl rfl rfl rfl rfl rfl ?_
  refine rr_if_eqD 9 dX6_turnBoth_4 (by decide) (fun c_1 => ?_) (fun c_1 => ?_)
  · skip
    refine rr_aload_n 0 dX6_turnBoth_9 rfl ?_
    refine rr_get fX6_19 0 rfl rfl dX6_turnBoth_10 ?_
    refine rr_aload_n 1 dX6_turnBoth_13 rfl ?_
    refine rr_iload_n 2 dX6_turnBoth_14 rfl ?_
    refine rr_callFv (ws2 := [(x, ob 6 [.ref s, .ref p, .ref z, .ref a, .ref b, .ref c, .ref f, .ref k, .ref q, .ref o]), (p, ob 2 [.ref pK, .ref pL, .ref pQ, .ref pW, .ref pX, .ref pY, .ref pS, .int (zz ↑np), .int (zz ↑nr)]), (pK, aI E 7 kd), (pL, aI E 7 lf), (pQ, aI E 7 qt), (pW, aI E 10 wd), (t, hO (tnF np kd lf qt wd h i))]) (wr := [(x, ob 6 [.ref s, .ref p, .ref z, .ref a, .ref b, .ref c, .ref f, .ref k, .ref q, .ref o])]) (call_V (q0 := 0) kX6_145 (c_turnPeg E (d + 0) p pK pL pQ pW pX pY pS np nr t kd lf qt wd h i hp ho (by omega)) rfl rfl rfl rfl (by omega) (by decide) (Nat.le_of_ble_eq_true rfl) (Nat.le_of_ble_eq_true rfl) dX6_turnBoth_15) [1, 2, 3, 4, 5, 6] [0] [0, 1, 2, 3, 4, 5, 6] rfl rfl rfl rfl rfl rfl rfl ?_
    refine rr_aload_n 1 dX6_turnBoth_18 rfl ?_
    refine rr_callFi (ws2 := [(x, ob 6 [.ref s, .ref p, .ref z, .ref a, .ref b, .ref c, .ref f, .ref k, .ref q, .ref o]), (p, ob 2 [.ref pK, .ref pL, .ref pQ, .ref pW, .ref pX, .ref pY, .ref pS, .int (zz ↑np), .int (zz ↑nr)]), (pK, aI E 7 kd), (pL, aI E 7 lf), (pQ, aI E 7 qt), (pW, aI E 10 wd), (t, hO (tnF np kd lf qt wd h i))]) (wr := [(x, ob 6 [.ref s, .ref p, .ref z, .ref a, .ref b, .ref c, .ref f, .ref k, .ref q, .ref o]), (p, ob 2 [.ref pK, .ref pL, .ref pQ, .ref pW, .ref pX, .ref pY, .ref pS, .int (zz ↑np), .int (zz ↑nr)]), (pK, aI E 7 kd), (pL, aI E 7 lf), (pQ, aI E 7 qt), (pW, aI E 10 wd)]) (call_V (q0 := 0) kX6_138 (c_isDown E (d + 3) t (tnF np kd lf qt wd h i) (by omega)) rfl rfl rfl rfl (by omega) (by decide) (Nat.le_of_ble_eq_true rfl) (Nat.le_of_ble_eq_true rfl) dX6_turnBoth_19) [6] [0, 1, 2, 3, 4, 5] [0, 1, 2, 3, 4, 5, 6] rfl rfl rfl rfl rfl rfl rfl ?_
    refine rr_if_eqD 27 dX6_turnBoth_22 (by decide) (fun c_2 => ?_) (fun c_2 => ?_)
    · skip
      exfalso; omega
    · skip
      refine rr_iconst dX6_turnBoth_25 ?_
      exact rr_iret dX6_turnBoth_26 rfl rfl ⟨rfl, tnF np kd lf qt wd h i, rfl⟩
  · skip
    refine rr_iconst dX6_turnBoth_7 ?_
    exact rr_iret dX6_turnBoth_8 rfl rfl ⟨rfl, h, rfl⟩
set_option maxRecDepth 100000 in
set_option maxHeartbeats 1000000 in
theorem c_undoes_y (E : Ev) (d : Nat) (x s p z a b c f k q o : Nat) (pK pL pQ pW pX pY pS : Nat) (np nr : Nat) (kd lf qt wd h g0 : Nat → Int) (hp : pOK np kd lf qt wd) (ho : hOK h) (i0 : Nat) (hi0 : i0 < np) : SP E mX6_undoes (d + 5) 0 0 [.ref x, .int (zz ↑i0)] [(x, ob 6 [.ref s, .ref p, .ref z, .ref a, .ref b, .ref c, .ref f, .ref k, .ref q, .ref o]), (p, ob 2 [.ref pK, .ref pL, .ref pQ, .ref pW, .ref pX, .ref pY, .ref pS, .int (zz ↑np), .int (zz ↑nr)]), (pK, aI E 7 kd), (pL, aI E 7 lf), (pQ, aI E 7 qt), (pW, aI E 10 wd), (a, hO h), (b, hO g0)] (fun v w => v = some (.int (zz ((bitsTo (und1 np kd lf qt wd h i0) np : Nat) : Int))) ∧ ∃ g1 : Nat → Int, w = [(x, ob 6 [.ref s, .ref p, .ref z, .ref a, .ref b, .ref c, .ref f, .ref k, .ref q, .ref o]), (p, ob 2 [.ref pK, .ref pL, .ref pQ, .ref pW, .ref pX, .ref pY, .ref pS, .int (zz ↑np), .int (zz ↑nr)]), (pK, aI E 7 kd), (pL, aI E 7 lf), (pQ, aI E 7 qt), (pW, aI E 10 wd), (a, hO h), (b, hO g1)]) := by
  show RR E mX6_undoes (d + 5) 0 0 0 [(0, .ref x), (1, .int (zz ↑i0))] [] [(x, ob 6 [.ref s, .ref p, .ref z, .ref a, .ref b, .ref c, .ref f, .ref k, .ref q, .ref o]), (p, ob 2 [.ref pK, .ref pL, .ref pQ, .ref pW, .ref pX, .ref pY, .ref pS, .int (zz ↑np), .int (zz ↑nr)]), (pK, aI E 7 kd), (pL, aI E 7 lf), (pQ, aI E 7 qt), (pW, aI E 10 wd), (a, hO h), (b, hO g0)] (fun v w => v = some (.int (zz ((bitsTo (und1 np kd lf qt wd h i0) np : Nat) : Int))) ∧ ∃ g1 : Nat → Int, w = [(x, ob 6 [.ref s, .ref p, .ref z, .ref a, .ref b, .ref c, .ref f, .ref k, .ref q, .ref o]), (p, ob 2 [.ref pK, .ref pL, .ref pQ, .ref pW, .ref pX, .ref pY, .ref pS, .int (zz ↑np), .int (zz ↑nr)]), (pK, aI E 7 kd), (pL, aI E 7 lf), (pQ, aI E 7 qt), (pW, aI E 10 wd), (a, hO h), (b, hO g1)])
  obtain ⟨o0, o1, o2, o3, o5, o6⟩ := id ho
  have hn := hp.1
  have lp : ∀ (n i : Nat) (g1 : Nat → Int), i + n = np → RR E mX6_undoes (d + 5) 0 0 17 [(0, .ref x), (1, .int (zz ↑i0)), (2, .int (zz (↑(bitsTo (und1 np kd lf qt wd h i0) i)))), (3, .int (zz ↑i))] [] [(x, ob 6 [.ref s, .ref p, .ref z, .ref a, .ref b, .ref c, .ref f, .ref k, .ref q, .ref o]), (p, ob 2 [.ref pK, .ref pL, .ref pQ, .ref pW, .ref pX, .ref pY, .ref pS, .int (zz ↑np), .int (zz ↑nr)]), (pK, aI E 7 kd), (pL, aI E 7 lf), (pQ, aI E 7 qt), (pW, aI E 10 wd), (a, hO h), (b, hO g1)] (fun v w => v = some (.int (zz ((bitsTo (und1 np kd lf qt wd h i0) np : Nat) : Int))) ∧ ∃ g1 : Nat → Int, w = [(x, ob 6 [.ref s, .ref p, .ref z, .ref a, .ref b, .ref c, .ref f, .ref k, .ref q, .ref o]), (p, ob 2 [.ref pK, .ref pL, .ref pQ, .ref pW, .ref pX, .ref pY, .ref pS, .int (zz ↑np), .int (zz ↑nr)]), (pK, aI E 7 kd), (pL, aI E 7 lf), (pQ, aI E 7 qt), (pW, aI E 10 wd), (a, hO h), (b, hO g1)]) := by
    intro n
    induction n with
    | zero =>
      intro i g1 h1
      obtain rfl : i = np := by omega
      refine rr_iload_n 3 dX6_undoes_17 rfl ?_
      refine rr_aload_n 0 dX6_undoes_18 rfl ?_
      refine rr_get fX6_19 0 rfl rfl dX6_undoes_19 ?_
      refine rr_get fX6_97 1 rfl rfl dX6_undoes_22 ?_
      refine rr_icmp_ge 98 dX6_undoes_25 (by decide) (by omega) (by omega) (fun c_1 => ?_) (fun c_1 => ?_)
      · skip
        refine rr_iload_n 2 dX6_undoes_98 rfl ?_
        exact rr_iret dX6_undoes_99 rfl rfl ⟨rfl, g1, rfl⟩
      · skip
        exfalso; omega
    | succ n ih =>
      intro i g1 h1
      have hi : i < np := by omega
      have ho2 := tnF_ok hp (tnF_ok hp ho hi0) hi
      obtain ⟨q0, q1, q2, q3, q5, q6⟩ := id ho2
      refine rr_iload_n 3 dX6_undoes_17 rfl ?_
      refine rr_aload_n 0 dX6_undoes_18 rfl ?_
      refine rr_get fX6_19 0 rfl rfl dX6_undoes_19 ?_
      refine rr_get fX6_97 1 rfl rfl dX6_undoes_22 ?_
      refine rr_icmp_ge 98 dX6_undoes_25 (by decide) (by omega) (by omega) (fun c_2 => ?_) (fun c_2 => ?_)
      · skip
        exfalso; omega
      · skip
        refine rr_aload_n 0 dX6_undoes_28 rfl ?_
        refine rr_get fX6_33 0 rfl rfl dX6_undoes_29 ?_
        refine rr_aload_n 0 dX6_undoes_32 rfl ?_
        refine rr_get fX6_29 0 rfl rfl dX6_undoes_33 ?_
        refine rr_callFv (ws2 := [(x, ob 6 [.ref s, .ref p, .ref z, .ref a, .ref b, .ref c, .ref f, .ref k, .ref q, .ref o]), (p, ob 2 [.ref pK, .ref pL, .ref pQ, .ref pW, .ref pX, .ref pY, .ref pS, .int (zz ↑np), .int (zz ↑nr)]), (pK, aI E 7 kd), (pL, aI E 7 lf), (pQ, aI E 7 qt), (pW, aI E 10 wd), (a, hO h), (b, hO h)]) (wr := [(x, ob 6 [.ref s, .ref p, .ref z, .ref a, .ref b, .ref c, .ref f, .ref k, .ref q, .ref o]), (p, ob 2 [.ref pK, .ref pL, .ref pQ, .ref pW, .ref pX, .ref pY, .ref pS, .int (zz ↑np), .int (zz ↑nr)]), (pK, aI E 7 kd), (pL, aI E 7 lf), (pQ, aI E 7 qt), (pW, aI E 10 wd)]) (call_V (q0 := 0) kX6_93 (c_copy E (d + 4) b a g1 h) rfl rfl rfl rfl (by omega) (by decide) (Nat.le_of_ble_eq_true rfl) (Nat.le_of_ble_eq_true rfl) dX6_undoes_36) [7, 6] [0, 1, 2, 3, 4, 5] [0, 1, 2, 3, 4, 5, 7, 6] rfl rfl rfl rfl rfl rfl rfl ?_
        refine rr_aload_n 0 dX6_undoes_39 rfl ?_
        refine rr_aload_n 0 dX6_undoes_40 rfl ?_
        refine rr_get fX6_33 0 rfl rfl dX6_undoes_41 ?_
        refine rr_iload_n 1 dX6_undoes_44 rfl ?_
        refine rr_iload_n 3 dX6_undoes_45 rfl ?_
        by_cases hc : ¬ h 2 = 0 ∧ ¬ (tnF np kd lf qt wd h i0) 2 = 0
        · skip
          refine rr_callFi (ws2 := [(x, ob 6 [.ref s, .ref p, .ref z, .ref a, .ref b, .ref c, .ref f, .ref k, .ref q, .ref o]), (p, ob 2 [.ref pK, .ref pL, .ref pQ, .ref pW, .ref pX, .ref pY, .ref pS, .int (zz ↑np), .int (zz ↑nr)]), (pK, aI E 7 kd), (pL, aI E 7 lf), (pQ, aI E 7 qt), (pW, aI E 10 wd), (a, hO h), (b, hO (tnF np kd lf qt wd (tnF np kd lf qt wd h i0) i))]) (wr := [(a, hO h)]) (call_V (q0 := 0) kX6_203 (c_both_y E (d + 0) x s p z a b c f k q o pK pL pQ pW pX pY pS np nr b kd lf qt wd h hp ho i0 i (by omega) (by omega) hc) rfl rfl rfl rfl (by omega) (by decide) (Nat.le_of_ble_eq_true rfl) (Nat.le_of_ble_eq_true rfl) dX6_undoes_46) [0, 1, 2, 3, 4, 5, 7] [6] [1, 2, 3, 4, 5, 6, 0, 7] rfl rfl rfl rfl rfl rfl rfl ?_
          refine rr_if_eq 92 dX6_undoes_49 (by decide) (by omega) (fun c_3 => ?_) (fun c_3 => ?_)
          · skip
            exfalso; omega
          · skip
            refine rr_aload_n 0 dX6_undoes_52 rfl ?_
            refine rr_get fX6_33 0 rfl rfl dX6_undoes_53 ?_
            refine rr_get fX6_149 7 rfl rfl dX6_undoes_56 ?_
            refine rr_aload_n 0 dX6_undoes_59 rfl ?_
            refine rr_get fX6_29 0 rfl rfl dX6_undoes_60 ?_
            refine rr_get fX6_149 6 rfl rfl dX6_undoes_63 ?_
            refine rr_icmp_ne 92 dX6_undoes_66 (by decide) (by omega) (by omega) (fun c_4 => ?_) (fun c_4 => ?_)
            · skip
              refine rr_iinc (lv2 := [(0, .ref x), (1, .int (zz ↑i0)), (2, .int (zz (↑(bitsTo (und1 np kd lf qt wd h i0) i)))), (3, .int (zz (↑(i + 1))))]) 3 dX6_undoes_92 rfl (by decide) rfl ?_
              refine rr_goto 17 dX6_undoes_95 (by decide) ?_
              refine RR.eq (lv2 := [(0, .ref x), (1, .int (zz ↑i0)), (2, .int (zz (↑(bitsTo (und1 np kd lf qt wd h i0) (i + 1))))), (3, .int (zz (↑(i + 1))))]) rfl (by rw [bitsTo, if_neg (by unfold und1; simp only [decide_eq_true_eq]; rintro ⟨z1, z2, z3⟩; first | exact hc z1 | omega)]) rfl rfl ?_
              exact ih (i + 1) (tnF np kd lf qt wd (tnF np kd lf qt wd h i0) i) (by omega)
            · skip
              refine rr_aload_n 0 dX6_undoes_69 rfl ?_
              refine rr_get fX6_33 0 rfl rfl dX6_undoes_70 ?_
              refine rr_get fX6_177 7 rfl rfl dX6_undoes_73 ?_
              refine rr_aload_n 0 dX6_undoes_76 rfl ?_
              refine rr_get fX6_29 0 rfl rfl dX6_undoes_77 ?_
              refine rr_get fX6_177 6 rfl rfl dX6_undoes_80 ?_
              refine rr_icmp_ne 92 dX6_undoes_83 (by decide) (by omega) (by omega) (fun c_5 => ?_) (fun c_5 => ?_)
              · skip
                refine rr_iinc (lv2 := [(0, .ref x), (1, .int (zz ↑i0)), (2, .int (zz (↑(bitsTo (und1 np kd lf qt wd h i0) i)))), (3, .int (zz (↑(i + 1))))]) 3 dX6_undoes_92 rfl (by decide) rfl ?_
                refine rr_goto 17 dX6_undoes_95 (by decide) ?_
                refine RR.eq (lv2 := [(0, .ref x), (1, .int (zz ↑i0)), (2, .int (zz (↑(bitsTo (und1 np kd lf qt wd h i0) (i + 1))))), (3, .int (zz (↑(i + 1))))]) rfl (by rw [bitsTo, if_neg (by unfold und1; simp only [decide_eq_true_eq]; rintro ⟨z1, z2, z3⟩; first | exact hc z1 | omega)]) rfl rfl ?_
                exact ih (i + 1) (tnF np kd lf qt wd (tnF np kd lf qt wd h i0) i) (by omega)
              · skip
                refine rr_iload_n 2 dX6_undoes_86 rfl ?_
                refine rr_iconst dX6_undoes_87 ?_
                refine rr_iload_n 3 dX6_undoes_88 rfl ?_
                refine rr_ishl (n := 1) (k := i) dX6_undoes_89 (by omega) (by have := Nat.pow_le_pow_right (n := 2) (by omega) (show i ≤ 9 by omega); omega) ?_
                refine rr_top (b := ((2 ^ i : Nat) : Int)) (by rw [Nat.one_mul]) ?_
                refine rr_ior (a := bitsTo (und1 np kd lf qt wd h i0) i) (b := 2 ^ i) dX6_undoes_90 ?_
                refine rr_top (b := ↑(bitsTo (und1 np kd lf qt wd h i0) (i + 1))) (by rw [bitsTo, if_pos (by unfold und1; simp only [decide_eq_true_eq]; exact ⟨hc, by omega, by omega⟩)]) ?_
                refine rr_istore_n (lv2 := [(0, .ref x), (1, .int (zz ↑i0)), (2, .int (zz (↑(bitsTo (und1 np kd lf qt wd h i0) (i + 1))))), (3, .int (zz ↑i))]) dX6_undoes_91 (by decide) rfl ?_
                refine rr_iinc (lv2 := [(0, .ref x), (1, .int (zz ↑i0)), (2, .int (zz (↑(bitsTo (und1 np kd lf qt wd h i0) (i + 1))))), (3, .int (zz (↑(i + 1))))]) 3 dX6_undoes_92 rfl (by decide) rfl ?_
                refine rr_goto 17 dX6_undoes_95 (by decide) ?_
                exact ih (i + 1) (tnF np kd lf qt wd (tnF np kd lf qt wd h i0) i) (by omega)
        · skip
          refine rr_call (wr := [(a, hO h)]) (call_V (q0 := 0) kX6_203 (c_both_n E (d + 0) x s p z a b c f k q o pK pL pQ pW pX pY pS np nr b kd lf qt wd h hp ho i0 i (by omega) (by omega) hc) rfl rfl rfl rfl (by omega) (by decide) (Nat.le_of_ble_eq_true rfl) (Nat.le_of_ble_eq_true rfl) dX6_undoes_46) [0, 1, 2, 3, 4, 5, 7] [6] rfl rfl rfl rfl rfl (Nat.zero_le _) (Nat.zero_le _) (fun v w1 hp1 => ?_)
          obtain ⟨rfl, g4, rfl⟩ := hp1
          refine RR.ws (ws2 := [(x, ob 6 [.ref s, .ref p, .ref z, .ref a, .ref b, .ref c, .ref f, .ref k, .ref q, .ref o]), (p, ob 2 [.ref pK, .ref pL, .ref pQ, .ref pW, .ref pX, .ref pY, .ref pS, .int (zz ↑np), .int (zz ↑nr)]), (pK, aI E 7 kd), (pL, aI E 7 lf), (pQ, aI E 7 qt), (pW, aI E 10 wd), (a, hO h), (b, hO g4)]) [1, 2, 3, 4, 5, 6, 0, 7] rfl rfl ?_
          refine RR.eq (st2 := [.int (zz 0)]) rfl rfl rfl rfl ?_
          refine rr_if_eq 92 dX6_undoes_49 (by decide) (by omega) (fun c_6 => ?_) (fun c_6 => ?_)
          · skip
            refine rr_iinc (lv2 := [(0, .ref x), (1, .int (zz ↑i0)), (2, .int (zz (↑(bitsTo (und1 np kd lf qt wd h i0) i)))), (3, .int (zz (↑(i + 1))))]) 3 dX6_undoes_92 rfl (by decide) rfl ?_
            refine rr_goto 17 dX6_undoes_95 (by decide) ?_
            refine RR.eq (lv2 := [(0, .ref x), (1, .int (zz ↑i0)), (2, .int (zz (↑(bitsTo (und1 np kd lf qt wd h i0) (i + 1))))), (3, .int (zz (↑(i + 1))))]) rfl (by rw [bitsTo, if_neg (by unfold und1; simp only [decide_eq_true_eq]; rintro ⟨z1, z2, z3⟩; first | exact hc z1 | omega)]) rfl rfl ?_
            exact ih (i + 1) g4 (by omega)
          · skip
            exfalso; omega
  refine rr_aload_n 0 dX6_undoes_0 rfl ?_
  refine rr_get fX6_19 0 rfl rfl dX6_undoes_1 ?_
  refine rr_iload_n 1 dX6_undoes_4 rfl ?_
  refine rr_callFi (ws2 := [(x, ob 6 [.ref s, .ref p, .ref z, .ref a, .ref b, .ref c, .ref f, .ref k, .ref q, .ref o]), (p, ob 2 [.ref pK, .ref pL, .ref pQ, .ref pW, .ref pX, .ref pY, .ref pS, .int (zz ↑np), .int (zz ↑nr)]), (pK, aI E 7 kd), (pL, aI E 7 lf), (pQ, aI E 7 qt), (pW, aI E 10 wd), (a, hO h), (b, hO g0)]) (wr := [(x, ob 6 [.ref s, .ref p, .ref z, .ref a, .ref b, .ref c, .ref f, .ref k, .ref q, .ref o]), (pK, aI E 7 kd), (pL, aI E 7 lf), (pQ, aI E 7 qt), (pW, aI E 10 wd), (a, hO h), (b, hO g0)]) (call_V (q0 := 0) kX6_104 (c_hasPeg E (d + 4) p pK pL pQ pW pX pY pS np nr ↑i0 (by omega) (by omega)) rfl rfl rfl rfl (by omega) (by decide) (Nat.le_of_ble_eq_true rfl) (Nat.le_of_ble_eq_true rfl) dX6_undoes_5) [1] [0, 2, 3, 4, 5, 6, 7] [0, 7, 1, 2, 3, 4, 5, 6] rfl rfl rfl rfl rfl rfl rfl ?_
  refine rr_if_neD 13 dX6_undoes_8 (by decide) (fun c_7 => ?_) (fun c_7 => ?_)
  · skip
    refine rr_iconst dX6_undoes_13 ?_
    refine rr_istore_n (lv2 := [(0, .ref x), (1, .int (zz ↑i0)), (2, .int (zz 0))]) dX6_undoes_14 (by decide) rfl ?_
    refine rr_iconst dX6_undoes_15 ?_
    refine rr_istore_n (lv2 := [(0, .ref x), (1, .int (zz ↑i0)), (2, .int (zz 0)), (3, .int (zz 0))]) dX6_undoes_16 (by decide) rfl ?_
    exact lp np 0 g0 (by omega)
  · skip
    exfalso; omega
set_option maxRecDepth 100000 in
set_option maxHeartbeats 1000000 in
theorem c_undoes_bad (E : Ev) (d : Nat) (x s p z a b c f k q o : Nat) (pK pL pQ pW pX pY pS : Nat) (np nr : Nat) (y : Int) (gy : -2147483648 ≤ y ∧ y < 2147483648) (hn : np ≤ 7) (hy : ¬ (0 ≤ y ∧ y < (np : Int))) : SP E mX6_undoes (d + 5) 0 0 [.ref x, .int (zz y)] [(x, ob 6 [.ref s, .ref p, .ref z, .ref a, .ref b, .ref c, .ref f, .ref k, .ref q, .ref o]), (p, ob 2 [.ref pK, .ref pL, .ref pQ, .ref pW, .ref pX, .ref pY, .ref pS, .int (zz ↑np), .int (zz ↑nr)])] (FP (some (.int (zz (-1)))) [(x, ob 6 [.ref s, .ref p, .ref z, .ref a, .ref b, .ref c, .ref f, .ref k, .ref q, .ref o]), (p, ob 2 [.ref pK, .ref pL, .ref pQ, .ref pW, .ref pX, .ref pY, .ref pS, .int (zz ↑np), .int (zz ↑nr)])]) := by
  show RR E mX6_undoes (d + 5) 0 0 0 [(0, .ref x), (1, .int (zz y))] [] [(x, ob 6 [.ref s, .ref p, .ref z, .ref a, .ref b, .ref c, .ref f, .ref k, .ref q, .ref o]), (p, ob 2 [.ref pK, .ref pL, .ref pQ, .ref pW, .ref pX, .ref pY, .ref pS, .int (zz ↑np), .int (zz ↑nr)])] (FP (some (.int (zz (-1)))) [(x, ob 6 [.ref s, .ref p, .ref z, .ref a, .ref b, .ref c, .ref f, .ref k, .ref q, .ref o]), (p, ob 2 [.ref pK, .ref pL, .ref pQ, .ref pW, .ref pX, .ref pY, .ref pS, .int (zz ↑np), .int (zz ↑nr)])])
  refine rr_aload_n 0 dX6_undoes_0 rfl ?_
  refine rr_get fX6_19 0 rfl rfl dX6_undoes_1 ?_
  refine rr_iload_n 1 dX6_undoes_4 rfl ?_
  refine rr_callFi (ws2 := [(x, ob 6 [.ref s, .ref p, .ref z, .ref a, .ref b, .ref c, .ref f, .ref k, .ref q, .ref o]), (p, ob 2 [.ref pK, .ref pL, .ref pQ, .ref pW, .ref pX, .ref pY, .ref pS, .int (zz ↑np), .int (zz ↑nr)])]) (wr := [(x, ob 6 [.ref s, .ref p, .ref z, .ref a, .ref b, .ref c, .ref f, .ref k, .ref q, .ref o])]) (call_V (q0 := 0) kX6_104 (c_hasPeg E (d + 4) p pK pL pQ pW pX pY pS np nr y (by omega) (by omega)) rfl rfl rfl rfl (by omega) (by decide) (Nat.le_of_ble_eq_true rfl) (Nat.le_of_ble_eq_true rfl) dX6_undoes_5) [1] [0] [0, 1] rfl rfl rfl rfl rfl rfl rfl ?_
  refine rr_if_neD 13 dX6_undoes_8 (by decide) (fun c_1 => ?_) (fun c_1 => ?_)
  · skip
    exfalso; omega
  · skip
    refine rr_iconst dX6_undoes_11 ?_
    exact rr_iret dX6_undoes_12 rfl rfl ⟨rfl, rfl⟩
set_option maxRecDepth 100000 in
set_option maxHeartbeats 1000000 in
theorem c_either_bad (E : Ev) (d : Nat) (x s p z a b c f k q o : Nat) (pK pL pQ pW pX pY pS : Nat) (np nr : Nat) (y y2 : Int) (gy : -2147483648 ≤ y ∧ y < 2147483648) (gy2 : -2147483648 ≤ y2 ∧ y2 < 2147483648) (hn : np ≤ 7) (hy : ¬ ((0 ≤ y ∧ y < (np : Int)) ∧ 0 ≤ y2 ∧ y2 < (np : Int))) : SP E mX6_either (d + 5) 0 0 [.ref x, .int (zz y), .int (zz y2)] [(x, ob 6 [.ref s, .ref p, .ref z, .ref a, .ref b, .ref c, .ref f, .ref k, .ref q, .ref o]), (p, ob 2 [.ref pK, .ref pL, .ref pQ, .ref pW, .ref pX, .ref pY, .ref pS, .int (zz ↑np), .int (zz ↑nr)])] (FP (some (.int (zz (-1)))) [(x, ob 6 [.ref s, .ref p, .ref z, .ref a, .ref b, .ref c, .ref f, .ref k, .ref q, .ref o]), (p, ob 2 [.ref pK, .ref pL, .ref pQ, .ref pW, .ref pX, .ref pY, .ref pS, .int (zz ↑np), .int (zz ↑nr)])]) := by
  show RR E mX6_either (d + 5) 0 0 0 [(0, .ref x), (1, .int (zz y)), (2, .int (zz y2))] [] [(x, ob 6 [.ref s, .ref p, .ref z, .ref a, .ref b, .ref c, .ref f, .ref k, .ref q, .ref o]), (p, ob 2 [.ref pK, .ref pL, .ref pQ, .ref pW, .ref pX, .ref pY, .ref pS, .int (zz ↑np), .int (zz ↑nr)])] (FP (some (.int (zz (-1)))) [(x, ob 6 [.ref s, .ref p, .ref z, .ref a, .ref b, .ref c, .ref f, .ref k, .ref q, .ref o]), (p, ob 2 [.ref pK, .ref pL, .ref pQ, .ref pW, .ref pX, .ref pY, .ref pS, .int (zz ↑np), .int (zz ↑nr)])])
  refine rr_aload_n 0 dX6_either_0 rfl ?_
  refine rr_get fX6_19 0 rfl rfl dX6_either_1 ?_
  refine rr_iload_n 1 dX6_either_4 rfl ?_
  refine rr_callFi (ws2 := [(x, ob 6 [.ref s, .ref p, .ref z, .ref a, .ref b, .ref c, .ref f, .ref k, .ref q, .ref o]), (p, ob 2 [.ref pK, .ref pL, .ref pQ, .ref pW, .ref pX, .ref pY, .ref pS, .int (zz ↑np), .int (zz ↑nr)])]) (wr := [(x, ob 6 [.ref s, .ref p, .ref z, .ref a, .ref b, .ref c, .ref f, .ref k, .ref q, .ref o])]) (call_V (q0 := 0) kX6_104 (c_hasPeg E (d + 4) p pK pL pQ pW pX pY pS np nr y (by omega) (by omega)) rfl rfl rfl rfl (by omega) (by decide) (Nat.le_of_ble_eq_true rfl) (Nat.le_of_ble_eq_true rfl) dX6_either_5) [1] [0] [0, 1] rfl rfl rfl rfl rfl rfl rfl ?_
  refine rr_if_eqD 22 dX6_either_8 (by decide) (fun c_1 => ?_) (fun c_1 => ?_)
  · skip
    refine rr_iconst dX6_either_22 ?_
    exact rr_iret dX6_either_23 rfl rfl ⟨rfl, rfl⟩
  · skip
    refine rr_aload_n 0 dX6_either_11 rfl ?_
    refine rr_get fX6_19 0 rfl rfl dX6_either_12 ?_
    refine rr_iload_n 2 dX6_either_15 rfl ?_
    refine rr_callFi (ws2 := [(x, ob 6 [.ref s, .ref p, .ref z, .ref a, .ref b, .ref c, .ref f, .ref k, .ref q, .ref o]), (p, ob 2 [.ref pK, .ref pL, .ref pQ, .ref pW, .ref pX, .ref pY, .ref pS, .int (zz ↑np), .int (zz ↑nr)])]) (wr := [(x, ob 6 [.ref s, .ref p, .ref z, .ref a, .ref b, .ref c, .ref f, .ref k, .ref q, .ref o])]) (call_V (q0 := 0) kX6_104 (c_hasPeg E (d + 4) p pK pL pQ pW pX pY pS np nr y2 (by omega) (by omega)) rfl rfl rfl rfl (by omega) (by decide) (Nat.le_of_ble_eq_true rfl) (Nat.le_of_ble_eq_true rfl) dX6_either_16) [1] [0] [0, 1] rfl rfl rfl rfl rfl rfl rfl ?_
    refine rr_if_neD 24 dX6_either_19 (by decide) (fun c_2 => ?_) (fun c_2 => ?_)
    · skip
      exfalso; omega
    · skip
      refine rr_iconst dX6_either_22 ?_
      exact rr_iret dX6_either_23 rfl rfl ⟨rfl, rfl⟩
set_option maxRecDepth 100000 in
set_option maxHeartbeats 1000000 in
theorem c_either_y (E : Ev) (d : Nat) (x s p z a b c f k q o : Nat) (pK pL pQ pW pX pY pS : Nat) (np nr : Nat) (kd lf qt wd h g0 g00 : Nat → Int) (hp : pOK np kd lf qt wd) (ho : hOK h) (i j : Nat) (hi : i < np) (hj : j < np) : SP E mX6_either (d + 5) 0 0 [.ref x, .int (zz ↑i), .int (zz ↑j)] [(x, ob 6 [.ref s, .ref p, .ref z, .ref a, .ref b, .ref c, .ref f, .ref k, .ref q, .ref o]), (p, ob 2 [.ref pK, .ref pL, .ref pQ, .ref pW, .ref pX, .ref pY, .ref pS, .int (zz ↑np), .int (zz ↑nr)]), (pK, aI E 7 kd), (pL, aI E 7 lf), (pQ, aI E 7 qt), (pW, aI E 10 wd), (a, hO h), (b, hO g0), (c, hO g00)] (fun v w => v = some (.int (zz (bI (eithA np kd lf qt wd h i j)))) ∧ ∃ g1 g2 : Nat → Int, w = [(x, ob 6 [.ref s, .ref p, .ref z, .ref a, .ref b, .ref c, .ref f, .ref k, .ref q, .ref o]), (p, ob 2 [.ref pK, .ref pL, .ref pQ, .ref pW, .ref pX, .ref pY, .ref pS, .int (zz ↑np), .int (zz ↑nr)]), (pK, aI E 7 kd), (pL, aI E 7 lf), (pQ, aI E 7 qt), (pW, aI E 10 wd), (a, hO h), (b, hO g1), (c, hO g2)]) := by
  show RR E mX6_either (d + 5) 0 0 0 [(0, .ref x), (1, .int (zz ↑i)), (2, .int (zz ↑j))] [] [(x, ob 6 [.ref s, .ref p, .ref z, .ref a, .ref b, .ref c, .ref f, .ref k, .ref q, .ref o]), (p, ob 2 [.ref pK, .ref pL, .ref pQ, .ref pW, .ref pX, .ref pY, .ref pS, .int (zz ↑np), .int (zz ↑nr)]), (pK, aI E 7 kd), (pL, aI E 7 lf), (pQ, aI E 7 qt), (pW, aI E 10 wd), (a, hO h), (b, hO g0), (c, hO g00)] (fun v w => v = some (.int (zz (bI (eithA np kd lf qt wd h i j)))) ∧ ∃ g1 g2 : Nat → Int, w = [(x, ob 6 [.ref s, .ref p, .ref z, .ref a, .ref b, .ref c, .ref f, .ref k, .ref q, .ref o]), (p, ob 2 [.ref pK, .ref pL, .ref pQ, .ref pW, .ref pX, .ref pY, .ref pS, .int (zz ↑np), .int (zz ↑nr)]), (pK, aI E 7 kd), (pL, aI E 7 lf), (pQ, aI E 7 qt), (pW, aI E 10 wd), (a, hO h), (b, hO g1), (c, hO g2)])
  obtain ⟨o0, o1, o2, o3, o5, o6⟩ := id ho
  have hn := hp.1
  have hoi := tnF_ok hp (tnF_ok hp ho hi) hj
  have hoj := tnF_ok hp (tnF_ok hp ho hj) hi
  obtain ⟨q0, q1, q2, q3, q5, q6⟩ := id hoi
  obtain ⟨v0, v1, v2, v3, v5, v6⟩ := id hoj
  refine rr_aload_n 0 dX6_either_0 rfl ?_
  refine rr_get fX6_19 0 rfl rfl dX6_either_1 ?_
  refine rr_iload_n 1 dX6_either_4 rfl ?_
  refine rr_callFi (ws2 := [(x, ob 6 [.ref s, .ref p, .ref z, .ref a, .ref b, .ref c, .ref f, .ref k, .ref q, .ref o]), (p, ob 2 [.ref pK, .ref pL, .ref pQ, .ref pW, .ref pX, .ref pY, .ref pS, .int (zz ↑np), .int (zz ↑nr)]), (pK, aI E 7 kd), (pL, aI E 7 lf), (pQ, aI E 7 qt), (pW, aI E 10 wd), (a, hO h), (b, hO g0), (c, hO g00)]) (wr := [(x, ob 6 [.ref s, .ref p, .ref z, .ref a, .ref b, .ref c, .ref f, .ref k, .ref q, .ref o]), (pK, aI E 7 kd), (pL, aI E 7 lf), (pQ, aI E 7 qt), (pW, aI E 10 wd), (a, hO h), (b, hO g0), (c, hO g00)]) (call_V (q0 := 0) kX6_104 (c_hasPeg E (d + 4) p pK pL pQ pW pX pY pS np nr ↑i (by omega) (by omega)) rfl rfl rfl rfl (by omega) (by decide) (Nat.le_of_ble_eq_true rfl) (Nat.le_of_ble_eq_true rfl) dX6_either_5) [1] [0, 2, 3, 4, 5, 6, 7, 8] [0, 8, 1, 2, 3, 4, 5, 6, 7] rfl rfl rfl rfl rfl rfl rfl ?_
  refine rr_if_eqD 22 dX6_either_8 (by decide) (fun c_1 => ?_) (fun c_1 => ?_)
  · skip
    exfalso; omega
  · skip
    refine rr_aload_n 0 dX6_either_11 rfl ?_
    refine rr_get fX6_19 0 rfl rfl dX6_either_12 ?_
    refine rr_iload_n 2 dX6_either_15 rfl ?_
    refine rr_callFi (ws2 := [(x, ob 6 [.ref s, .ref p, .ref z, .ref a, .ref b, .ref c, .ref f, .ref k, .ref q, .ref o]), (p, ob 2 [.ref pK, .ref pL, .ref pQ, .ref pW, .ref pX, .ref pY, .ref pS, .int (zz ↑np), .int (zz ↑nr)]), (pK, aI E 7 kd), (pL, aI E 7 lf), (pQ, aI E 7 qt), (pW, aI E 10 wd), (a, hO h), (b, hO g0), (c, hO g00)]) (wr := [(x, ob 6 [.ref s, .ref p, .ref z, .ref a, .ref b, .ref c, .ref f, .ref k, .ref q, .ref o]), (pK, aI E 7 kd), (pL, aI E 7 lf), (pQ, aI E 7 qt), (pW, aI E 10 wd), (a, hO h), (b, hO g0), (c, hO g00)]) (call_V (q0 := 0) kX6_104 (c_hasPeg E (d + 4) p pK pL pQ pW pX pY pS np nr ↑j (by omega) (by omega)) rfl rfl rfl rfl (by omega) (by decide) (Nat.le_of_ble_eq_true rfl) (Nat.le_of_ble_eq_true rfl) dX6_either_16) [1] [0, 2, 3, 4, 5, 6, 7, 8] [0, 8, 1, 2, 3, 4, 5, 6, 7] rfl rfl rfl rfl rfl rfl rfl ?_
    refine rr_if_neD 24 dX6_either_19 (by decide) (fun c_2 => ?_) (fun c_2 => ?_)
    · skip
      refine rr_aload_n 0 dX6_either_24 rfl ?_
      refine rr_get fX6_33 0 rfl rfl dX6_either_25 ?_
      refine rr_aload_n 0 dX6_either_28 rfl ?_
      refine rr_get fX6_29 0 rfl rfl dX6_either_29 ?_
      refine rr_callFv (ws2 := [(x, ob 6 [.ref s, .ref p, .ref z, .ref a, .ref b, .ref c, .ref f, .ref k, .ref q, .ref o]), (p, ob 2 [.ref pK, .ref pL, .ref pQ, .ref pW, .ref pX, .ref pY, .ref pS, .int (zz ↑np), .int (zz ↑nr)]), (pK, aI E 7 kd), (pL, aI E 7 lf), (pQ, aI E 7 qt), (pW, aI E 10 wd), (a, hO h), (b, hO h), (c, hO g00)]) (wr := [(x, ob 6 [.ref s, .ref p, .ref z, .ref a, .ref b, .ref c, .ref f, .ref k, .ref q, .ref o]), (p, ob 2 [.ref pK, .ref pL, .ref pQ, .ref pW, .ref pX, .ref pY, .ref pS, .int (zz ↑np), .int (zz ↑nr)]), (pK, aI E 7 kd), (pL, aI E 7 lf), (pQ, aI E 7 qt), (pW, aI E 10 wd), (c, hO g00)]) (call_V (q0 := 0) kX6_93 (c_copy E (d + 4) b a g0 h) rfl rfl rfl rfl (by omega) (by decide) (Nat.le_of_ble_eq_true rfl) (Nat.le_of_ble_eq_true rfl) dX6_either_32) [7, 6] [0, 1, 2, 3, 4, 5, 8] [0, 1, 2, 3, 4, 5, 8, 7, 6] rfl rfl rfl rfl rfl rfl rfl ?_
      refine rr_aload_n 0 dX6_either_35 rfl ?_
      refine rr_get fX6_36 0 rfl rfl dX6_either_36 ?_
      refine rr_aload_n 0 dX6_either_39 rfl ?_
      refine rr_get fX6_29 0 rfl rfl dX6_either_40 ?_
      refine rr_callFv (ws2 := [(x, ob 6 [.ref s, .ref p, .ref z, .ref a, .ref b, .ref c, .ref f, .ref k, .ref q, .ref o]), (p, ob 2 [.ref pK, .ref pL, .ref pQ, .ref pW, .ref pX, .ref pY, .ref pS, .int (zz ↑np), .int (zz ↑nr)]), (pK, aI E 7 kd), (pL, aI E 7 lf), (pQ, aI E 7 qt), (pW, aI E 10 wd), (a, hO h), (b, hO h), (c, hO h)]) (wr := [(x, ob 6 [.ref s, .ref p, .ref z, .ref a, .ref b, .ref c, .ref f, .ref k, .ref q, .ref o]), (p, ob 2 [.ref pK, .ref pL, .ref pQ, .ref pW, .ref pX, .ref pY, .ref pS, .int (zz ↑np), .int (zz ↑nr)]), (pK, aI E 7 kd), (pL, aI E 7 lf), (pQ, aI E 7 qt), (pW, aI E 10 wd), (b, hO h)]) (call_V (q0 := 0) kX6_93 (c_copy E (d + 4) c a g00 h) rfl rfl rfl rfl (by omega) (by decide) (Nat.le_of_ble_eq_true rfl) (Nat.le_of_ble_eq_true rfl) dX6_either_43) [8, 6] [0, 1, 2, 3, 4, 5, 7] [0, 1, 2, 3, 4, 5, 8, 6, 7] rfl rfl rfl rfl rfl rfl rfl ?_
      refine rr_aload_n 0 dX6_either_46 rfl ?_
      refine rr_aload_n 0 dX6_either_47 rfl ?_
      refine rr_get fX6_33 0 rfl rfl dX6_either_48 ?_
      refine rr_iload_n 1 dX6_either_51 rfl ?_
      refine rr_iload_n 2 dX6_either_52 rfl ?_
      by_cases hc : ¬ h 2 = 0 ∧ ¬ (tnF np kd lf qt wd h i) 2 = 0
      · skip
        refine rr_callFi (ws2 := [(x, ob 6 [.ref s, .ref p, .ref z, .ref a, .ref b, .ref c, .ref f, .ref k, .ref q, .ref o]), (p, ob 2 [.ref pK, .ref pL, .ref pQ, .ref pW, .ref pX, .ref pY, .ref pS, .int (zz ↑np), .int (zz ↑nr)]), (pK, aI E 7 kd), (pL, aI E 7 lf), (pQ, aI E 7 qt), (pW, aI E 10 wd), (a, hO h), (b, hO (tnF np kd lf qt wd (tnF np kd lf qt wd h i) j)), (c, hO h)]) (wr := [(a, hO h), (c, hO h)]) (call_V (q0 := 0) kX6_203 (c_both_y E (d + 0) x s p z a b c f k q o pK pL pQ pW pX pY pS np nr b kd lf qt wd h hp ho i j (by omega) (by omega) hc) rfl rfl rfl rfl (by omega) (by decide) (Nat.le_of_ble_eq_true rfl) (Nat.le_of_ble_eq_true rfl) dX6_either_53) [0, 1, 2, 3, 4, 5, 7] [6, 8] [2, 3, 4, 5, 6, 7, 0, 8, 1] rfl rfl rfl rfl rfl rfl rfl ?_
        refine rr_if_eq 90 dX6_either_56 (by decide) (by omega) (fun c_3 => ?_) (fun c_3 => ?_)
        · skip
          exfalso; omega
        · skip
          refine rr_aload_n 0 dX6_either_59 rfl ?_
          refine rr_aload_n 0 dX6_either_60 rfl ?_
          refine rr_get fX6_36 0 rfl rfl dX6_either_61 ?_
          refine rr_iload_n 2 dX6_either_64 rfl ?_
          refine rr_iload_n 1 dX6_either_65 rfl ?_
          by_cases hk : ¬ h 2 = 0 ∧ ¬ (tnF np kd lf qt wd h j) 2 = 0
          · skip
            refine rr_callFi (ws2 := [(x, ob 6 [.ref s, .ref p, .ref z, .ref a, .ref b, .ref c, .ref f, .ref k, .ref q, .ref o]), (p, ob 2 [.ref pK, .ref pL, .ref pQ, .ref pW, .ref pX, .ref pY, .ref pS, .int (zz ↑np), .int (zz ↑nr)]), (pK, aI E 7 kd), (pL, aI E 7 lf), (pQ, aI E 7 qt), (pW, aI E 10 wd), (a, hO h), (b, hO (tnF np kd lf qt wd (tnF np kd lf qt wd h i) j)), (c, hO (tnF np kd lf qt wd (tnF np kd lf qt wd h j) i))]) (wr := [(a, hO h), (b, hO (tnF np kd lf qt wd (tnF np kd lf qt wd h i) j))]) (call_V (q0 := 0) kX6_203 (c_both_y E (d + 0) x s p z a b c f k q o pK pL pQ pW pX pY pS np nr c kd lf qt wd h hp ho j i (by omega) (by omega) hk) rfl rfl rfl rfl (by omega) (by decide) (Nat.le_of_ble_eq_true rfl) (Nat.le_of_ble_eq_true rfl) dX6_either_66) [0, 1, 2, 3, 4, 5, 8] [6, 7] [2, 3, 4, 5, 6, 7, 0, 1, 8] rfl rfl rfl rfl rfl rfl rfl ?_
            refine rr_if_eq 90 dX6_either_69 (by decide) (by omega) (fun c_4 => ?_) (fun c_4 => ?_)
            · skip
              exfalso; omega
            · skip
              refine rr_aload_n 0 dX6_either_72 rfl ?_
              refine rr_get fX6_33 0 rfl rfl dX6_either_73 ?_
              refine rr_aload_n 0 dX6_either_76 rfl ?_
              refine rr_get fX6_36 0 rfl rfl dX6_either_77 ?_
              refine rr_callFi (ws2 := [(x, ob 6 [.ref s, .ref p, .ref z, .ref a, .ref b, .ref c, .ref f, .ref k, .ref q, .ref o]), (p, ob 2 [.ref pK, .ref pL, .ref pQ, .ref pW, .ref pX, .ref pY, .ref pS, .int (zz ↑np), .int (zz ↑nr)]), (pK, aI E 7 kd), (pL, aI E 7 lf), (pQ, aI E 7 qt), (pW, aI E 10 wd), (a, hO h), (b, hO (tnF np kd lf qt wd (tnF np kd lf qt wd h i) j)), (c, hO (tnF np kd lf qt wd (tnF np kd lf qt wd h j) i))]) (wr := [(x, ob 6 [.ref s, .ref p, .ref z, .ref a, .ref b, .ref c, .ref f, .ref k, .ref q, .ref o]), (p, ob 2 [.ref pK, .ref pL, .ref pQ, .ref pW, .ref pX, .ref pY, .ref pS, .int (zz ↑np), .int (zz ↑nr)]), (pK, aI E 7 kd), (pL, aI E 7 lf), (pQ, aI E 7 qt), (pW, aI E 10 wd), (a, hO h)]) (call_V (q0 := 0) kX6_207 (c_isLike E (d + 4) b c (tnF np kd lf qt wd (tnF np kd lf qt wd h i) j) (tnF np kd lf qt wd (tnF np kd lf qt wd h j) i) (by omega) (by omega) (by omega) (by omega) (by omega) (by omega) (by omega) (by omega)) rfl rfl rfl rfl (by omega) (by decide) (Nat.le_of_ble_eq_true rfl) (Nat.le_of_ble_eq_true rfl) dX6_either_80) [7, 8] [0, 1, 2, 3, 4, 5, 6] [0, 1, 2, 3, 4, 5, 6, 7, 8] rfl rfl rfl rfl rfl rfl rfl ?_
              refine rr_if_eqD 90 dX6_either_83 (by decide) (fun c_5 => ?_) (fun c_5 => ?_)
              · skip
                refine rr_iconst dX6_either_90 ?_
                exact rr_iret dX6_either_91 rfl rfl ⟨congrArg (fun z => some (Value.int (zz z))) (by unfold eithA; simp_all [bI]), tnF np kd lf qt wd (tnF np kd lf qt wd h i) j, tnF np kd lf qt wd (tnF np kd lf qt wd h j) i, rfl⟩
              · skip
                refine rr_iconst dX6_either_86 ?_
                refine rr_goto 91 dX6_either_87 (by decide) ?_
                exact rr_iret dX6_either_91 rfl rfl ⟨congrArg (fun z => some (Value.int (zz z))) (by unfold eithA; simp_all [bI]), tnF np kd lf qt wd (tnF np kd lf qt wd h i) j, tnF np kd lf qt wd (tnF np kd lf qt wd h j) i, rfl⟩
          · skip
            refine rr_call (wr := [(a, hO h), (b, hO (tnF np kd lf qt wd (tnF np kd lf qt wd h i) j))]) (call_V (q0 := 0) kX6_203 (c_both_n E (d + 0) x s p z a b c f k q o pK pL pQ pW pX pY pS np nr c kd lf qt wd h hp ho j i (by omega) (by omega) hk) rfl rfl rfl rfl (by omega) (by decide) (Nat.le_of_ble_eq_true rfl) (Nat.le_of_ble_eq_true rfl) dX6_either_66) [0, 1, 2, 3, 4, 5, 8] [6, 7] rfl rfl rfl rfl rfl (Nat.zero_le _) (Nat.zero_le _) (fun v w1 hp1 => ?_)
            obtain ⟨rfl, g5, rfl⟩ := hp1
            refine RR.ws (ws2 := [(x, ob 6 [.ref s, .ref p, .ref z, .ref a, .ref b, .ref c, .ref f, .ref k, .ref q, .ref o]), (p, ob 2 [.ref pK, .ref pL, .ref pQ, .ref pW, .ref pX, .ref pY, .ref pS, .int (zz ↑np), .int (zz ↑nr)]), (pK, aI E 7 kd), (pL, aI E 7 lf), (pQ, aI E 7 qt), (pW, aI E 10 wd), (a, hO h), (b, hO (tnF np kd lf qt wd (tnF np kd lf qt wd h i) j)), (c, hO g5)]) [2, 3, 4, 5, 6, 7, 0, 1, 8] rfl rfl ?_
            refine RR.eq (st2 := [.int (zz 0)]) rfl rfl rfl rfl ?_
            refine rr_if_eq 90 dX6_either_69 (by decide) (by omega) (fun c_6 => ?_) (fun c_6 => ?_)
            · skip
              refine rr_iconst dX6_either_90 ?_
              exact rr_iret dX6_either_91 rfl rfl ⟨congrArg (fun z => some (Value.int (zz z))) (by unfold eithA; simp_all [bI]), tnF np kd lf qt wd (tnF np kd lf qt wd h i) j, g5, rfl⟩
            · skip
              exfalso; omega
      · skip
        refine rr_call (wr := [(a, hO h), (c, hO h)]) (call_V (q0 := 0) kX6_203 (c_both_n E (d + 0) x s p z a b c f k q o pK pL pQ pW pX pY pS np nr b kd lf qt wd h hp ho i j (by omega) (by omega) hc) rfl rfl rfl rfl (by omega) (by decide) (Nat.le_of_ble_eq_true rfl) (Nat.le_of_ble_eq_true rfl) dX6_either_53) [0, 1, 2, 3, 4, 5, 7] [6, 8] rfl rfl rfl rfl rfl (Nat.zero_le _) (Nat.zero_le _) (fun v w1 hp1 => ?_)
        obtain ⟨rfl, g4, rfl⟩ := hp1
        refine RR.ws (ws2 := [(x, ob 6 [.ref s, .ref p, .ref z, .ref a, .ref b, .ref c, .ref f, .ref k, .ref q, .ref o]), (p, ob 2 [.ref pK, .ref pL, .ref pQ, .ref pW, .ref pX, .ref pY, .ref pS, .int (zz ↑np), .int (zz ↑nr)]), (pK, aI E 7 kd), (pL, aI E 7 lf), (pQ, aI E 7 qt), (pW, aI E 10 wd), (a, hO h), (b, hO g4), (c, hO h)]) [2, 3, 4, 5, 6, 7, 0, 8, 1] rfl rfl ?_
        refine RR.eq (st2 := [.int (zz 0)]) rfl rfl rfl rfl ?_
        refine rr_if_eq 90 dX6_either_56 (by decide) (by omega) (fun c_7 => ?_) (fun c_7 => ?_)
        · skip
          refine rr_iconst dX6_either_90 ?_
          exact rr_iret dX6_either_91 rfl rfl ⟨congrArg (fun z => some (Value.int (zz z))) (by unfold eithA; simp_all [bI]), g4, h, rfl⟩
        · skip
          exfalso; omega
    · skip
      exfalso; omega
set_option maxRecDepth 100000 in
set_option maxHeartbeats 1000000 in
theorem c_which_bad (E : Ev) (d : Nat) (x s p z a b c f k q o : Nat) (x1 y1 z1 : Int) (gx1 : -2147483648 ≤ x1 ∧ x1 < 2147483648) (gy1 : -2147483648 ≤ y1 ∧ y1 < 2147483648) (gz1 : -2147483648 ≤ z1 ∧ z1 < 2147483648) (hc : ¬ (0 ≤ x1 ∧ x1 ≤ 9 ∧ 0 ≤ y1 ∧ y1 ≤ 9 ∧ 0 ≤ z1 ∧ z1 ≤ 9)) : SP E mX6_which (d + 4) 0 0 [.ref x, .int (zz x1), .int (zz y1), .int (zz z1)] [(x, ob 6 [.ref s, .ref p, .ref z, .ref a, .ref b, .ref c, .ref f, .ref k, .ref q, .ref o])] (FP (some (.int (zz (-1)))) [(x, ob 6 [.ref s, .ref p, .ref z, .ref a, .ref b, .ref c, .ref f, .ref k, .ref q, .ref o])]) := by
  show RR E mX6_which (d + 4) 0 0 0 [(0, .ref x), (1, .int (zz x1)), (2, .int (zz y1)), (3, .int (zz z1))] [] [(x, ob 6 [.ref s, .ref p, .ref z, .ref a, .ref b, .ref c, .ref f, .ref k, .ref q, .ref o])] (FP (some (.int (zz (-1)))) [(x, ob 6 [.ref s, .ref p, .ref z, .ref a, .ref b, .ref c, .ref f, .ref k, .ref q, .ref o])])
  refine rr_iload_n 1 dX6_which_0 rfl ?_
  refine rr_if_lt 30 dX6_which_1 (by decide) (by omega) (fun c_1 => ?_) (fun c_1 => ?_)
  · skip
    refine rr_iconst dX6_which_30 ?_
    exact rr_iret dX6_which_31 rfl rfl ⟨rfl, rfl⟩
  · skip
    refine rr_iload_n 1 dX6_which_4 rfl ?_
    refine rr_bipush dX6_which_5 (by decide) ?_
    refine rr_icmp_gt 30 dX6_which_7 (by decide) (by omega) (by omega) (fun c_2 => ?_) (fun c_2 => ?_)
    · skip
      refine rr_iconst dX6_which_30 ?_
      exact rr_iret dX6_which_31 rfl rfl ⟨rfl, rfl⟩
    · skip
      refine rr_iload_n 2 dX6_which_10 rfl ?_
      refine rr_if_lt 30 dX6_which_11 (by decide) (by omega) (fun c_3 => ?_) (fun c_3 => ?_)
      · skip
        refine rr_iconst dX6_which_30 ?_
        exact rr_iret dX6_which_31 rfl rfl ⟨rfl, rfl⟩
      · skip
        refine rr_iload_n 2 dX6_which_14 rfl ?_
        refine rr_bipush dX6_which_15 (by decide) ?_
        refine rr_icmp_gt 30 dX6_which_17 (by decide) (by omega) (by omega) (fun c_4 => ?_) (fun c_4 => ?_)
        · skip
          refine rr_iconst dX6_which_30 ?_
          exact rr_iret dX6_which_31 rfl rfl ⟨rfl, rfl⟩
        · skip
          refine rr_iload_n 3 dX6_which_20 rfl ?_
          refine rr_if_lt 30 dX6_which_21 (by decide) (by omega) (fun c_5 => ?_) (fun c_5 => ?_)
          · skip
            refine rr_iconst dX6_which_30 ?_
            exact rr_iret dX6_which_31 rfl rfl ⟨rfl, rfl⟩
          · skip
            refine rr_iload_n 3 dX6_which_24 rfl ?_
            refine rr_bipush dX6_which_25 (by decide) ?_
            refine rr_icmp_le 32 dX6_which_27 (by decide) (by omega) (by omega) (fun c_6 => ?_) (fun c_6 => ?_)
            · skip
              exfalso; omega
            · skip
              refine rr_iconst dX6_which_30 ?_
              exact rr_iret dX6_which_31 rfl rfl ⟨rfl, rfl⟩
set_option maxRecDepth 100000 in
set_option maxHeartbeats 1000000 in
theorem c_which_y (E : Ev) (d : Nat) (x s p z a b c f k q o : Nat) (pK pL pQ pW pX pY pS : Nat) (np nr : Nat) (kd lf qt wd sh g0 : Nat → Int) (hp : pOK np kd lf qt wd) (hs : hOK sh) (x1 y1 z1 : Int) (hc : 0 ≤ x1 ∧ x1 ≤ 9 ∧ 0 ≤ y1 ∧ y1 ≤ 9 ∧ 0 ≤ z1 ∧ z1 ≤ 9) : SP E mX6_which (d + 4) 0 0 [.ref x, .int (zz x1), .int (zz y1), .int (zz z1)] [(x, ob 6 [.ref s, .ref p, .ref z, .ref a, .ref b, .ref c, .ref f, .ref k, .ref q, .ref o]), (p, ob 2 [.ref pK, .ref pL, .ref pQ, .ref pW, .ref pX, .ref pY, .ref pS, .int (zz ↑np), .int (zz ↑nr)]), (pK, aI E 7 kd), (pL, aI E 7 lf), (pQ, aI E 7 qt), (pW, aI E 10 wd), (pS, hO sh), (b, hO g0)] (fun v w => v = some (.int (zz ((bitsTo (whi1 np kd lf qt wd sh x1 y1 z1) np : Nat) : Int))) ∧ ∃ g1 : Nat → Int, w = [(x, ob 6 [.ref s, .ref p, .ref z, .ref a, .ref b, .ref c, .ref f, .ref k, .ref q, .ref o]), (p, ob 2 [.ref pK, .ref pL, .ref pQ, .ref pW, .ref pX, .ref pY, .ref pS, .int (zz ↑np), .int (zz ↑nr)]), (pK, aI E 7 kd), (pL, aI E 7 lf), (pQ, aI E 7 qt), (pW, aI E 10 wd), (pS, hO sh), (b, hO g1)]) := by
  show RR E mX6_which (d + 4) 0 0 0 [(0, .ref x), (1, .int (zz x1)), (2, .int (zz y1)), (3, .int (zz z1))] [] [(x, ob 6 [.ref s, .ref p, .ref z, .ref a, .ref b, .ref c, .ref f, .ref k, .ref q, .ref o]), (p, ob 2 [.ref pK, .ref pL, .ref pQ, .ref pW, .ref pX, .ref pY, .ref pS, .int (zz ↑np), .int (zz ↑nr)]), (pK, aI E 7 kd), (pL, aI E 7 lf), (pQ, aI E 7 qt), (pW, aI E 10 wd), (pS, hO sh), (b, hO g0)] (fun v w => v = some (.int (zz ((bitsTo (whi1 np kd lf qt wd sh x1 y1 z1) np : Nat) : Int))) ∧ ∃ g1 : Nat → Int, w = [(x, ob 6 [.ref s, .ref p, .ref z, .ref a, .ref b, .ref c, .ref f, .ref k, .ref q, .ref o]), (p, ob 2 [.ref pK, .ref pL, .ref pQ, .ref pW, .ref pX, .ref pY, .ref pS, .int (zz ↑np), .int (zz ↑nr)]), (pK, aI E 7 kd), (pL, aI E 7 lf), (pQ, aI E 7 qt), (pW, aI E 10 wd), (pS, hO sh), (b, hO g1)])
  have hn := hp.1
  have lp : ∀ (n i : Nat) (g1 : Nat → Int), i + n = np → RR E mX6_which (d + 4) 0 0 38 [(0, .ref x), (1, .int (zz x1)), (2, .int (zz y1)), (3, .int (zz z1)), (4, .int (zz (↑(bitsTo (whi1 np kd lf qt wd sh x1 y1 z1) i)))), (5, .int (zz ↑i))] [] [(x, ob 6 [.ref s, .ref p, .ref z, .ref a, .ref b, .ref c, .ref f, .ref k, .ref q, .ref o]), (p, ob 2 [.ref pK, .ref pL, .ref pQ, .ref pW, .ref pX, .ref pY, .ref pS, .int (zz ↑np), .int (zz ↑nr)]), (pK, aI E 7 kd), (pL, aI E 7 lf), (pQ, aI E 7 qt), (pW, aI E 10 wd), (pS, hO sh), (b, hO g1)] (fun v w => v = some (.int (zz ((bitsTo (whi1 np kd lf qt wd sh x1 y1 z1) np : Nat) : Int))) ∧ ∃ g1 : Nat → Int, w = [(x, ob 6 [.ref s, .ref p, .ref z, .ref a, .ref b, .ref c, .ref f, .ref k, .ref q, .ref o]), (p, ob 2 [.ref pK, .ref pL, .ref pQ, .ref pW, .ref pX, .ref pY, .ref pS, .int (zz ↑np), .int (zz ↑nr)]), (pK, aI E 7 kd), (pL, aI E 7 lf), (pQ, aI E 7 qt), (pW, aI E 10 wd), (pS, hO sh), (b, hO g1)]) := by
    intro n
    induction n with
    | zero =>
      intro i g1 h1
      obtain rfl : i = np := by omega
      refine rr_iload 5 dX6_which_38 rfl ?_
      refine rr_aload_n 0 dX6_which_40 rfl ?_
      refine rr_get fX6_19 0 rfl rfl dX6_which_41 ?_
      refine rr_get fX6_97 1 rfl rfl dX6_which_44 ?_
      refine rr_icmp_ge 125 dX6_which_47 (by decide) (by omega) (by omega) (fun c_1 => ?_) (fun c_1 => ?_)
      · skip
        refine rr_iload 4 dX6_which_125 rfl ?_
        exact rr_iret dX6_which_127 rfl rfl ⟨rfl, g1, rfl⟩
      · skip
        exfalso; omega
    | succ n ih =>
      intro i g1 h1
      have hi : i < np := by omega
      have ho2 := tnF_ok hp hs hi
      obtain ⟨q0, q1, q2, q3, q5, q6⟩ := id ho2
      refine rr_iload 5 dX6_which_38 rfl ?_
      refine rr_aload_n 0 dX6_which_40 rfl ?_
      refine rr_get fX6_19 0 rfl rfl dX6_which_41 ?_
      refine rr_get fX6_97 1 rfl rfl dX6_which_44 ?_
      refine rr_icmp_ge 125 dX6_which_47 (by decide) (by omega) (by omega) (fun c_2 => ?_) (fun c_2 => ?_)
      · skip
        exfalso; omega
      · skip
        refine rr_aload_n 0 dX6_which_50 rfl ?_
        refine rr_get fX6_33 0 rfl rfl dX6_which_51 ?_
        refine rr_aload_n 0 dX6_which_54 rfl ?_
        refine rr_get fX6_19 0 rfl rfl dX6_which_55 ?_
        refine rr_get fX6_90 1 rfl rfl dX6_which_58 ?_
        refine rr_callFv (ws2 := [(x, ob 6 [.ref s, .ref p, .ref z, .ref a, .ref b, .ref c, .ref f, .ref k, .ref q, .ref o]), (p, ob 2 [.ref pK, .ref pL, .ref pQ, .ref pW, .ref pX, .ref pY, .ref pS, .int (zz ↑np), .int (zz ↑nr)]), (pK, aI E 7 kd), (pL, aI E 7 lf), (pQ, aI E 7 qt), (pW, aI E 10 wd), (pS, hO sh), (b, hO sh)]) (wr := [(x, ob 6 [.ref s, .ref p, .ref z, .ref a, .ref b, .ref c, .ref f, .ref k, .ref q, .ref o]), (p, ob 2 [.ref pK, .ref pL, .ref pQ, .ref pW, .ref pX, .ref pY, .ref pS, .int (zz ↑np), .int (zz ↑nr)]), (pK, aI E 7 kd), (pL, aI E 7 lf), (pQ, aI E 7 qt), (pW, aI E 10 wd)]) (call_V (q0 := 0) kX6_93 (c_copy E (d + 3) b pS g1 sh) rfl rfl rfl rfl (by omega) (by decide) (Nat.le_of_ble_eq_true rfl) (Nat.le_of_ble_eq_true rfl) dX6_which_61) [7, 6] [0, 1, 2, 3, 4, 5] [0, 1, 2, 3, 4, 5, 7, 6] rfl rfl rfl rfl rfl rfl rfl ?_
        refine rr_aload_n 0 dX6_which_64 rfl ?_
        refine rr_get fX6_19 0 rfl rfl dX6_which_65 ?_
        refine rr_aload_n 0 dX6_which_68 rfl ?_
        refine rr_get fX6_33 0 rfl rfl dX6_which_69 ?_
        refine rr_iload 5 dX6_which_72 rfl ?_
        refine rr_callFv (ws2 := [(x, ob 6 [.ref s, .ref p, .ref z, .ref a, .ref b, .ref c, .ref f, .ref k, .ref q, .ref o]), (p, ob 2 [.ref pK, .ref pL, .ref pQ, .ref pW, .ref pX, .ref pY, .ref pS, .int (zz ↑np), .int (zz ↑nr)]), (pK, aI E 7 kd), (pL, aI E 7 lf), (pQ, aI E 7 qt), (pW, aI E 10 wd), (pS, hO sh), (b, hO (tnF np kd lf qt wd sh i))]) (wr := [(x, ob 6 [.ref s, .ref p, .ref z, .ref a, .ref b, .ref c, .ref f, .ref k, .ref q, .ref o]), (pS, hO sh)]) (call_V (q0 := 0) kX6_145 (c_turnPeg E (d + 0) p pK pL pQ pW pX pY pS np nr b kd lf qt wd sh i hp hs (by omega)) rfl rfl rfl rfl (by omega) (by decide) (Nat.le_of_ble_eq_true rfl) (Nat.le_of_ble_eq_true rfl) dX6_which_74) [1, 2, 3, 4, 5, 7] [0, 6] [0, 2, 3, 4, 5, 6, 1, 7] rfl rfl rfl rfl rfl rfl rfl ?_
        refine rr_aload_n 0 dX6_which_77 rfl ?_
        refine rr_get fX6_33 0 rfl rfl dX6_which_78 ?_
        refine rr_get fX6_171 7 rfl rfl dX6_which_81 ?_
        refine rr_iload_n 1 dX6_which_84 rfl ?_
        refine rr_icmp_ne 119 dX6_which_85 (by decide) (by omega) (by omega) (fun c_3 => ?_) (fun c_3 => ?_)
        · skip
          refine rr_iinc (lv2 := [(0, .ref x), (1, .int (zz x1)), (2, .int (zz y1)), (3, .int (zz z1)), (4, .int (zz (↑(bitsTo (whi1 np kd lf qt wd sh x1 y1 z1) i)))), (5, .int (zz (↑(i + 1))))]) 5 dX6_which_119 rfl (by decide) rfl ?_
          refine rr_goto 38 dX6_which_122 (by decide) ?_
          refine RR.eq (lv2 := [(0, .ref x), (1, .int (zz x1)), (2, .int (zz y1)), (3, .int (zz z1)), (4, .int (zz (↑(bitsTo (whi1 np kd lf qt wd sh x1 y1 z1) (i + 1))))), (5, .int (zz (↑(i + 1))))]) rfl (by rw [bitsTo, if_neg (by unfold whi1; simp only [decide_eq_true_eq]; omega)]) rfl rfl ?_
          exact ih (i + 1) (tnF np kd lf qt wd sh i) (by omega)
        · skip
          refine rr_aload_n 0 dX6_which_88 rfl ?_
          refine rr_get fX6_33 0 rfl rfl dX6_which_89 ?_
          refine rr_get fX6_174 7 rfl rfl dX6_which_92 ?_
          refine rr_iload_n 2 dX6_which_95 rfl ?_
          refine rr_icmp_ne 119 dX6_which_96 (by decide) (by omega) (by omega) (fun c_4 => ?_) (fun c_4 => ?_)
          · skip
            refine rr_iinc (lv2 := [(0, .ref x), (1, .int (zz x1)), (2, .int (zz y1)), (3, .int (zz z1)), (4, .int (zz (↑(bitsTo (whi1 np kd lf qt wd sh x1 y1 z1) i)))), (5, .int (zz (↑(i + 1))))]) 5 dX6_which_119 rfl (by decide) rfl ?_
            refine rr_goto 38 dX6_which_122 (by decide) ?_
            refine RR.eq (lv2 := [(0, .ref x), (1, .int (zz x1)), (2, .int (zz y1)), (3, .int (zz z1)), (4, .int (zz (↑(bitsTo (whi1 np kd lf qt wd sh x1 y1 z1) (i + 1))))), (5, .int (zz (↑(i + 1))))]) rfl (by rw [bitsTo, if_neg (by unfold whi1; simp only [decide_eq_true_eq]; omega)]) rfl rfl ?_
            exact ih (i + 1) (tnF np kd lf qt wd sh i) (by omega)
          · skip
            refine rr_aload_n 0 dX6_which_99 rfl ?_
            refine rr_get fX6_33 0 rfl rfl dX6_which_100 ?_
            refine rr_get fX6_149 7 rfl rfl dX6_which_103 ?_
            refine rr_iload_n 3 dX6_which_106 rfl ?_
            refine rr_icmp_ne 119 dX6_which_107 (by decide) (by omega) (by omega) (fun c_5 => ?_) (fun c_5 => ?_)
            · skip
              refine rr_iinc (lv2 := [(0, .ref x), (1, .int (zz x1)), (2, .int (zz y1)), (3, .int (zz z1)), (4, .int (zz (↑(bitsTo (whi1 np kd lf qt wd sh x1 y1 z1) i)))), (5, .int (zz (↑(i + 1))))]) 5 dX6_which_119 rfl (by decide) rfl ?_
              refine rr_goto 38 dX6_which_122 (by decide) ?_
              refine RR.eq (lv2 := [(0, .ref x), (1, .int (zz x1)), (2, .int (zz y1)), (3, .int (zz z1)), (4, .int (zz (↑(bitsTo (whi1 np kd lf qt wd sh x1 y1 z1) (i + 1))))), (5, .int (zz (↑(i + 1))))]) rfl (by rw [bitsTo, if_neg (by unfold whi1; simp only [decide_eq_true_eq]; omega)]) rfl rfl ?_
              exact ih (i + 1) (tnF np kd lf qt wd sh i) (by omega)
            · skip
              refine rr_iload 4 dX6_which_110 rfl ?_
              refine rr_iconst dX6_which_112 ?_
              refine rr_iload 5 dX6_which_113 rfl ?_
              refine rr_ishl (n := 1) (k := i) dX6_which_115 (by omega) (by have := Nat.pow_le_pow_right (n := 2) (by omega) (show i ≤ 9 by omega); omega) ?_
              refine rr_top (b := ((2 ^ i : Nat) : Int)) (by rw [Nat.one_mul]) ?_
              refine rr_ior (a := bitsTo (whi1 np kd lf qt wd sh x1 y1 z1) i) (b := 2 ^ i) dX6_which_116 ?_
              refine rr_top (b := ↑(bitsTo (whi1 np kd lf qt wd sh x1 y1 z1) (i + 1))) (by rw [bitsTo, if_pos (by unfold whi1; simp only [decide_eq_true_eq]; omega)]) ?_
              refine rr_istore (lv2 := [(0, .ref x), (1, .int (zz x1)), (2, .int (zz y1)), (3, .int (zz z1)), (4, .int (zz (↑(bitsTo (whi1 np kd lf qt wd sh x1 y1 z1) (i + 1))))), (5, .int (zz ↑i))]) dX6_which_117 (by decide) rfl ?_
              refine rr_iinc (lv2 := [(0, .ref x), (1, .int (zz x1)), (2, .int (zz y1)), (3, .int (zz z1)), (4, .int (zz (↑(bitsTo (whi1 np kd lf qt wd sh x1 y1 z1) (i + 1))))), (5, .int (zz (↑(i + 1))))]) 5 dX6_which_119 rfl (by decide) rfl ?_
              refine rr_goto 38 dX6_which_122 (by decide) ?_
              exact ih (i + 1) (tnF np kd lf qt wd sh i) (by omega)
  refine rr_iload_n 1 dX6_which_0 rfl ?_
  refine rr_if_lt 30 dX6_which_1 (by decide) (by omega) (fun c_6 => ?_) (fun c_6 => ?_)
  · skip
    exfalso; omega
  · skip
    refine rr_iload_n 1 dX6_which_4 rfl ?_
    refine rr_bipush dX6_which_5 (by decide) ?_
    refine rr_icmp_gt 30 dX6_which_7 (by decide) (by omega) (by omega) (fun c_7 => ?_) (fun c_7 => ?_)
    · skip
      exfalso; omega
    · skip
      refine rr_iload_n 2 dX6_which_10 rfl ?_
      refine rr_if_lt 30 dX6_which_11 (by decide) (by omega) (fun c_8 => ?_) (fun c_8 => ?_)
      · skip
        exfalso; omega
      · skip
        refine rr_iload_n 2 dX6_which_14 rfl ?_
        refine rr_bipush dX6_which_15 (by decide) ?_
        refine rr_icmp_gt 30 dX6_which_17 (by decide) (by omega) (by omega) (fun c_9 => ?_) (fun c_9 => ?_)
        · skip
          exfalso; omega
        · skip
          refine rr_iload_n 3 dX6_which_20 rfl ?_
          refine rr_if_lt 30 dX6_which_21 (by decide) (by omega) (fun c_10 => ?_) (fun c_10 => ?_)
          · skip
            exfalso; omega
          · skip
            refine rr_iload_n 3 dX6_which_24 rfl ?_
            refine rr_bipush dX6_which_25 (by decide) ?_
            refine rr_icmp_le 32 dX6_which_27 (by decide) (by omega) (by omega) (fun c_11 => ?_) (fun c_11 => ?_)
            · skip
              refine rr_iconst dX6_which_32 ?_
              refine rr_istore (lv2 := [(0, .ref x), (1, .int (zz x1)), (2, .int (zz y1)), (3, .int (zz z1)), (4, .int (zz 0))]) dX6_which_33 (by decide) rfl ?_
              refine rr_iconst dX6_which_35 ?_
              refine rr_istore (lv2 := [(0, .ref x), (1, .int (zz x1)), (2, .int (zz y1)), (3, .int (zz z1)), (4, .int (zz 0)), (5, .int (zz 0))]) dX6_which_36 (by decide) rfl ?_
              exact lp np 0 g0 (by omega)
            · skip
              exfalso; omega
