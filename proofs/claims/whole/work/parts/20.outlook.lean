set_option maxRecDepth 100000 in
set_option maxHeartbeats 1000000 in
theorem c_heightOf (E : Ev) (d : Nat) (pl : Nat) (hp : pl < 8000) : SP E mX1_heightOf (d + 0) 0 0 [.int (zz ↑pl)] [] (FP (some (.int (zz (↑(pl / 800))))) []) := by
  show RR E mX1_heightOf (d + 0) 0 0 0 [(0, .int (zz ↑pl))] [] [] (FP (some (.int (zz (↑(pl / 800))))) [])
  refine rr_iload_n 0 dX1_heightOf_0 rfl ?_
  refine rr_sipush dX1_heightOf_1 (by decide) ?_
  refine rr_idiv dX1_heightOf_4 (by omega) (by omega) ?_
  exact rr_iret dX1_heightOf_5 rfl rfl ⟨congrArg (fun z => some (Value.int (zz z))) (by omega), rfl⟩
set_option maxRecDepth 100000 in
set_option maxHeartbeats 1000000 in
theorem c_standAt (E : Ev) (d : Nat) (p pK pL pQ pW pX pY pS : Nat) (np nr : Nat) (o fl ln mt fr : Nat) (Q : Qu) (kd lf qt wd f : Nat → Int) (pl : Nat) (hp : pOK np kd lf qt wd) (hl : pl < 8000) : SP E mX1_standAt (d + 1) 0 0 [.ref o, .int (zz ↑pl)] [(o, ob 1 [.ref p, .ref fl, .ref ln, .ref mt, .int (zz ↑fr), .int (zz (↑(Q.length)))]), (fl, hO f), (p, ob 2 [.ref pK, .ref pL, .ref pQ, .ref pW, .ref pX, .ref pY, .ref pS, .int (zz ↑np), .int (zz ↑nr)]), (pK, aI E 7 kd)] (FP none [(o, ob 1 [.ref p, .ref fl, .ref ln, .ref mt, .int (zz ↑fr), .int (zz (↑(Q.length)))]), (fl, hO (stF (fdF kd np 0) f pl)), (p, ob 2 [.ref pK, .ref pL, .ref pQ, .ref pW, .ref pX, .ref pY, .ref pS, .int (zz ↑np), .int (zz ↑nr)]), (pK, aI E 7 kd)]) := by
  show RR E mX1_standAt (d + 1) 0 0 0 [(0, .ref o), (1, .int (zz ↑pl))] [] [(o, ob 1 [.ref p, .ref fl, .ref ln, .ref mt, .int (zz ↑fr), .int (zz (↑(Q.length)))]), (fl, hO f), (p, ob 2 [.ref pK, .ref pL, .ref pQ, .ref pW, .ref pX, .ref pY, .ref pS, .int (zz ↑np), .int (zz ↑nr)]), (pK, aI E 7 kd)] (FP none [(o, ob 1 [.ref p, .ref fl, .ref ln, .ref mt, .int (zz ↑fr), .int (zz (↑(Q.length)))]), (fl, hO (stF (fdF kd np 0) f pl)), (p, ob 2 [.ref pK, .ref pL, .ref pQ, .ref pW, .ref pX, .ref pY, .ref pS, .int (zz ↑np), .int (zz ↑nr)]), (pK, aI E 7 kd)])
  refine rr_iload_n 1 dX1_standAt_0 rfl ?_
  refine rr_iconst dX1_standAt_1 ?_
  refine rr_ishr (n := pl) (k := 3) dX1_standAt_2 (by omega) (by decide) ?_
  refine rr_top (b := ↑(pl / 8)) rfl ?_
  refine rr_istore_n (lv2 := [(0, .ref o), (1, .int (zz ↑pl)), (2, .int (zz (↑(pl / 8))))]) dX1_standAt_3 (by decide) rfl ?_
  refine rr_aload_n 0 dX1_standAt_4 rfl ?_
  refine rr_get fX1_12 0 rfl rfl dX1_standAt_5 ?_
  refine rr_iload_n 1 dX1_standAt_8 rfl ?_
  refine rr_callFi (ws2 := [(o, ob 1 [.ref p, .ref fl, .ref ln, .ref mt, .int (zz ↑fr), .int (zz (↑(Q.length)))]), (fl, hO f), (p, ob 2 [.ref pK, .ref pL, .ref pQ, .ref pW, .ref pX, .ref pY, .ref pS, .int (zz ↑np), .int (zz ↑nr)]), (pK, aI E 7 kd)]) (wr := [(o, ob 1 [.ref p, .ref fl, .ref ln, .ref mt, .int (zz ↑fr), .int (zz (↑(Q.length)))]), (fl, hO f), (p, ob 2 [.ref pK, .ref pL, .ref pQ, .ref pW, .ref pX, .ref pY, .ref pS, .int (zz ↑np), .int (zz ↑nr)]), (pK, aI E 7 kd)]) (call_S kX1_44 (c_heightOf E (d + 0) pl (by omega)) rfl (by omega) (by decide) (Nat.le_of_ble_eq_true rfl) (Nat.le_of_ble_eq_true rfl) dX1_standAt_9) [] [0, 1, 2, 3] [0, 1, 2, 3] rfl rfl rfl rfl rfl rfl rfl ?_
  refine rr_put (ws2 := [(o, ob 1 [.ref p, .ref fl, .ref ln, .ref mt, .int (zz ↑fr), .int (zz (↑(Q.length)))]), (fl, hO (updI f 2 (↑(pl / 800)))), (p, ob 2 [.ref pK, .ref pL, .ref pQ, .ref pW, .ref pX, .ref pY, .ref pS, .int (zz ↑np), .int (zz ↑nr)]), (pK, aI E 7 kd)]) fX1_93 1 rfl rfl rfl (Nat.le_of_ble_eq_true rfl) rfl dX1_standAt_12 ?_
  refine rr_aload_n 0 dX1_standAt_15 rfl ?_
  refine rr_get fX1_12 0 rfl rfl dX1_standAt_16 ?_
  refine rr_iload_n 2 dX1_standAt_19 rfl ?_
  refine rr_bipush dX1_standAt_20 (by decide) ?_
  refine rr_idiv dX1_standAt_22 (by omega) (by omega) ?_
  refine rr_bipush dX1_standAt_23 (by decide) ?_
  refine rr_irem dX1_standAt_25 (by omega) (by omega) ?_
  refine rr_put (ws2 := [(o, ob 1 [.ref p, .ref fl, .ref ln, .ref mt, .int (zz ↑fr), .int (zz (↑(Q.length)))]), (fl, hO (updI (updI f 2 (↑(pl / 800))) 1 (((↑(pl / 8)) / 10) % 10))), (p, ob 2 [.ref pK, .ref pL, .ref pQ, .ref pW, .ref pX, .ref pY, .ref pS, .int (zz ↑np), .int (zz ↑nr)]), (pK, aI E 7 kd)]) fX1_68 1 rfl rfl rfl (Nat.le_of_ble_eq_true rfl) rfl dX1_standAt_26 ?_
  refine rr_aload_n 0 dX1_standAt_29 rfl ?_
  refine rr_get fX1_12 0 rfl rfl dX1_standAt_30 ?_
  refine rr_iload_n 2 dX1_standAt_33 rfl ?_
  refine rr_bipush dX1_standAt_34 (by decide) ?_
  refine rr_irem dX1_standAt_36 (by omega) (by omega) ?_
  refine rr_put (ws2 := [(o, ob 1 [.ref p, .ref fl, .ref ln, .ref mt, .int (zz ↑fr), .int (zz (↑(Q.length)))]), (fl, hO (updI (updI (updI f 2 (↑(pl / 800))) 1 (((↑(pl / 8)) / 10) % 10)) 0 ((↑(pl / 8)) % 10))), (p, ob 2 [.ref pK, .ref pL, .ref pQ, .ref pW, .ref pX, .ref pY, .ref pS, .int (zz ↑np), .int (zz ↑nr)]), (pK, aI E 7 kd)]) fX1_65 1 rfl rfl rfl (Nat.le_of_ble_eq_true rfl) rfl dX1_standAt_37 ?_
  refine rr_aload_n 0 dX1_standAt_40 rfl ?_
  refine rr_get fX1_12 0 rfl rfl dX1_standAt_41 ?_
  refine rr_iload_n 1 dX1_standAt_44 rfl ?_
  refine rr_iconst dX1_standAt_45 ?_
  refine rr_ishr (n := pl) (k := 1) dX1_standAt_46 (by omega) (by decide) ?_
  refine rr_top (b := ↑(pl / 2)) rfl ?_
  refine rr_iconst dX1_standAt_47 ?_
  refine rr_iand (r := (↑(pl / 2)) % 4) 2 dX1_standAt_48 (by decide) (by decide +kernel) rfl ?_
  refine rr_put (ws2 := [(o, ob 1 [.ref p, .ref fl, .ref ln, .ref mt, .int (zz ↑fr), .int (zz (↑(Q.length)))]), (fl, hO (updI (updI (updI (updI f 2 (↑(pl / 800))) 1 (((↑(pl / 8)) / 10) % 10)) 0 ((↑(pl / 8)) % 10)) 3 ((↑(pl / 2)) % 4))), (p, ob 2 [.ref pK, .ref pL, .ref pQ, .ref pW, .ref pX, .ref pY, .ref pS, .int (zz ↑np), .int (zz ↑nr)]), (pK, aI E 7 kd)]) fX1_100 1 rfl rfl rfl (Nat.le_of_ble_eq_true rfl) rfl dX1_standAt_49 ?_
  refine rr_aload_n 0 dX1_standAt_52 rfl ?_
  refine rr_get fX1_12 0 rfl rfl dX1_standAt_53 ?_
  refine rr_iload_n 1 dX1_standAt_56 rfl ?_
  refine rr_iconst dX1_standAt_57 ?_
  refine rr_iand (r := ↑pl % 2) 1 dX1_standAt_58 (by decide) (by decide +kernel) rfl ?_
  refine rr_iconst dX1_standAt_59 ?_
  refine rr_icmp_ne 73 dX1_standAt_60 (by decide) (by omega) (by omega) (fun c_1 => ?_) (fun c_1 => ?_)
  · skip
    refine rr_bipush dX1_standAt_73 (by decide) ?_
    refine rr_put (ws2 := [(o, ob 1 [.ref p, .ref fl, .ref ln, .ref mt, .int (zz ↑fr), .int (zz (↑(Q.length)))]), (fl, hO (updI (updI (updI (updI (updI f 2 (↑(pl / 800))) 1 (((↑(pl / 8)) / 10) % 10)) 0 ((↑(pl / 8)) % 10)) 3 ((↑(pl / 2)) % 4)) 6 (-4))), (p, ob 2 [.ref pK, .ref pL, .ref pQ, .ref pW, .ref pX, .ref pY, .ref pS, .int (zz ↑np), .int (zz ↑nr)]), (pK, aI E 7 kd)]) fX1_103 1 rfl rfl rfl (Nat.le_of_ble_eq_true rfl) rfl dX1_standAt_75 ?_
    exact rr_ret dX1_standAt_78 rfl ⟨rfl, by unfold stF; rw [if_neg (by omega)]⟩
  · skip
    refine rr_aload_n 0 dX1_standAt_63 rfl ?_
    refine rr_get fX1_25 0 rfl rfl dX1_standAt_64 ?_
    refine rr_callFi (ws2 := [(o, ob 1 [.ref p, .ref fl, .ref ln, .ref mt, .int (zz ↑fr), .int (zz (↑(Q.length)))]), (fl, hO (updI (updI (updI (updI f 2 (↑(pl / 800))) 1 (((↑(pl / 8)) / 10) % 10)) 0 ((↑(pl / 8)) % 10)) 3 ((↑(pl / 2)) % 4))), (p, ob 2 [.ref pK, .ref pL, .ref pQ, .ref pW, .ref pX, .ref pY, .ref pS, .int (zz ↑np), .int (zz ↑nr)]), (pK, aI E 7 kd)]) (wr := [(o, ob 1 [.ref p, .ref fl, .ref ln, .ref mt, .int (zz ↑fr), .int (zz (↑(Q.length)))]), (fl, hO (updI (updI (updI (updI f 2 (↑(pl / 800))) 1 (((↑(pl / 8)) / 10) % 10)) 0 ((↑(pl / 8)) % 10)) 3 ((↑(pl / 2)) % 4)))]) (call_V (q0 := 0) kX1_114 (c_firstDoubling E (d + 0) p pK pL pQ pW pX pY pS np nr kd lf qt wd hp) rfl rfl rfl rfl (by omega) (by decide) (Nat.le_of_ble_eq_true rfl) (Nat.le_of_ble_eq_true rfl) dX1_standAt_67) [2, 3] [0, 1] [0, 1, 2, 3] rfl rfl rfl rfl rfl rfl rfl ?_
    refine rr_goto 75 dX1_standAt_70 (by decide) ?_
    refine rr_put (ws2 := [(o, ob 1 [.ref p, .ref fl, .ref ln, .ref mt, .int (zz ↑fr), .int (zz (↑(Q.length)))]), (fl, hO (updI (updI (updI (updI (updI f 2 (↑(pl / 800))) 1 (((↑(pl / 8)) / 10) % 10)) 0 ((↑(pl / 8)) % 10)) 3 ((↑(pl / 2)) % 4)) 6 (fdF kd np 0))), (p, ob 2 [.ref pK, .ref pL, .ref pQ, .ref pW, .ref pX, .ref pY, .ref pS, .int (zz ↑np), .int (zz ↑nr)]), (pK, aI E 7 kd)]) fX1_103 1 rfl rfl rfl (Nat.le_of_ble_eq_true rfl) rfl dX1_standAt_75 ?_
    exact rr_ret dX1_standAt_78 rfl ⟨rfl, by unfold stF; rw [if_pos (by omega)]⟩
set_option maxRecDepth 100000 in
set_option maxHeartbeats 1000000 in
theorem c_placeOf (E : Ev) (d : Nat) (p pK pL pQ pW pX pY pS : Nat) (np nr : Nat) (o fl ln mt fr : Nat) (Q : Qu) (a : Nat) (kd lf qt wd h : Nat → Int) (hp : pOK np kd lf qt wd) (ho : hOK h) : SP E mX1_placeOf (d + 2) 0 0 [.ref o, .ref a] [(o, ob 1 [.ref p, .ref fl, .ref ln, .ref mt, .int (zz ↑fr), .int (zz (↑(Q.length)))]), (p, ob 2 [.ref pK, .ref pL, .ref pQ, .ref pW, .ref pX, .ref pY, .ref pS, .int (zz ↑np), .int (zz ↑nr)]), (pK, aI E 7 kd), (a, hO h)] (FP (some (.int (zz (↑(plN np kd h))))) [(o, ob 1 [.ref p, .ref fl, .ref ln, .ref mt, .int (zz ↑fr), .int (zz (↑(Q.length)))]), (p, ob 2 [.ref pK, .ref pL, .ref pQ, .ref pW, .ref pX, .ref pY, .ref pS, .int (zz ↑np), .int (zz ↑nr)]), (pK, aI E 7 kd), (a, hO h)]) := by
  show RR E mX1_placeOf (d + 2) 0 0 0 [(0, .ref o), (1, .ref a)] [] [(o, ob 1 [.ref p, .ref fl, .ref ln, .ref mt, .int (zz ↑fr), .int (zz (↑(Q.length)))]), (p, ob 2 [.ref pK, .ref pL, .ref pQ, .ref pW, .ref pX, .ref pY, .ref pS, .int (zz ↑np), .int (zz ↑nr)]), (pK, aI E 7 kd), (a, hO h)] (FP (some (.int (zz (↑(plN np kd h))))) [(o, ob 1 [.ref p, .ref fl, .ref ln, .ref mt, .int (zz ↑fr), .int (zz (↑(Q.length)))]), (p, ob 2 [.ref pK, .ref pL, .ref pQ, .ref pW, .ref pX, .ref pY, .ref pS, .int (zz ↑np), .int (zz ↑nr)]), (pK, aI E 7 kd), (a, hO h)])
  obtain ⟨o0, o1, o2, o3, o5, o6⟩ := id ho
  refine rr_bipush dX1_placeOf_0 (by decide) ?_
  refine rr_aload_n 1 dX1_placeOf_2 rfl ?_
  refine rr_get fX1_93 3 rfl rfl dX1_placeOf_3 ?_
  refine rr_imul dX1_placeOf_6 ?_
  refine rr_aload_n 1 dX1_placeOf_7 rfl ?_
  refine rr_callFi (ws2 := [(o, ob 1 [.ref p, .ref fl, .ref ln, .ref mt, .int (zz ↑fr), .int (zz (↑(Q.length)))]), (p, ob 2 [.ref pK, .ref pL, .ref pQ, .ref pW, .ref pX, .ref pY, .ref pS, .int (zz ↑np), .int (zz ↑nr)]), (pK, aI E 7 kd), (a, hO h)]) (wr := [(o, ob 1 [.ref p, .ref fl, .ref ln, .ref mt, .int (zz ↑fr), .int (zz (↑(Q.length)))]), (p, ob 2 [.ref pK, .ref pL, .ref pQ, .ref pW, .ref pX, .ref pY, .ref pS, .int (zz ↑np), .int (zz ↑nr)]), (pK, aI E 7 kd)]) (call_V (q0 := 0) kX1_96 (c_spot E (d + 1) a h) rfl rfl rfl rfl (by omega) (by decide) (Nat.le_of_ble_eq_true rfl) (Nat.le_of_ble_eq_true rfl) dX1_placeOf_8) [3] [0, 1, 2] [0, 1, 2, 3] rfl rfl rfl rfl rfl rfl rfl ?_
  refine rr_iadd dX1_placeOf_11 ?_
  refine rr_istore_n (lv2 := [(0, .ref o), (1, .ref a), (2, .int (zz ((100 * (h 2)) + (10 * (h 1) + (h 0)))))]) dX1_placeOf_12 (by decide) rfl ?_
  refine rr_bipush dX1_placeOf_13 (by decide) ?_
  refine rr_iload_n 2 dX1_placeOf_15 rfl ?_
  refine rr_imul dX1_placeOf_16 ?_
  refine rr_iconst dX1_placeOf_17 ?_
  refine rr_aload_n 1 dX1_placeOf_18 rfl ?_
  refine rr_get fX1_100 3 rfl rfl dX1_placeOf_19 ?_
  refine rr_imul dX1_placeOf_22 ?_
  refine rr_iadd dX1_placeOf_23 ?_
  refine rr_aload_n 0 dX1_placeOf_24 rfl ?_
  refine rr_get fX1_25 0 rfl rfl dX1_placeOf_25 ?_
  refine rr_aload_n 1 dX1_placeOf_28 rfl ?_
  refine rr_get fX1_103 3 rfl rfl dX1_placeOf_29 ?_
  refine rr_callFi (ws2 := [(o, ob 1 [.ref p, .ref fl, .ref ln, .ref mt, .int (zz ↑fr), .int (zz (↑(Q.length)))]), (p, ob 2 [.ref pK, .ref pL, .ref pQ, .ref pW, .ref pX, .ref pY, .ref pS, .int (zz ↑np), .int (zz ↑nr)]), (pK, aI E 7 kd), (a, hO h)]) (wr := [(o, ob 1 [.ref p, .ref fl, .ref ln, .ref mt, .int (zz ↑fr), .int (zz (↑(Q.length)))]), (a, hO h)]) (call_V (q0 := 0) kX1_106 (c_isDoubling E (d + 0) p pK pL pQ pW pX pY pS np nr kd lf qt wd (h 6) hp (by omega)) rfl rfl rfl rfl (by omega) (by decide) (Nat.le_of_ble_eq_true rfl) (Nat.le_of_ble_eq_true rfl) dX1_placeOf_32) [1, 2] [0, 3] [0, 2, 3, 1] rfl rfl rfl rfl rfl rfl rfl ?_
  refine rr_if_eqB 42 dX1_placeOf_35 (by decide) (fun c_1 => ?_) (fun c_1 => ?_)
  · skip
    refine rr_iconst dX1_placeOf_42 ?_
    refine rr_iadd dX1_placeOf_43 ?_
    exact rr_iret dX1_placeOf_44 rfl rfl ⟨congrArg (fun z => some (Value.int (zz z))) (by rw [plN_eq ho]; unfold plF; simp [bI, *]), rfl⟩
  · skip
    refine rr_iconst dX1_placeOf_38 ?_
    refine rr_goto 43 dX1_placeOf_39 (by decide) ?_
    refine rr_iadd dX1_placeOf_43 ?_
    exact rr_iret dX1_placeOf_44 rfl rfl ⟨congrArg (fun z => some (Value.int (zz z))) (by rw [plN_eq ho]; unfold plF; simp [bI, *]), rfl⟩
set_option maxRecDepth 100000 in
set_option maxHeartbeats 1000000 in
theorem c_after (E : Ev) (d : Nat) (p pK pL pQ pW pX pY pS : Nat) (np nr : Nat) (o fl ln mt fr : Nat) (Q : Qu) (kd lf qt wd f : Nat → Int) (pl i : Nat) (hp : pOK np kd lf qt wd) (hf : 1 ≤ f 5 ∧ f 5 ≤ 2) (hl : pl < 8000) (hi : i < np) : SP E mX1_after (d + 4) 0 0 [.ref o, .int (zz ↑pl), .int (zz ↑i)] [(o, ob 1 [.ref p, .ref fl, .ref ln, .ref mt, .int (zz ↑fr), .int (zz (↑(Q.length)))]), (fl, hO f), (p, ob 2 [.ref pK, .ref pL, .ref pQ, .ref pW, .ref pX, .ref pY, .ref pS, .int (zz ↑np), .int (zz ↑nr)]), (pK, aI E 7 kd), (pL, aI E 7 lf), (pQ, aI E 7 qt), (pW, aI E 10 wd)] (FP (some (.int (zz (↑(nxF np kd lf qt wd (f 5) pl i))))) [(o, ob 1 [.ref p, .ref fl, .ref ln, .ref mt, .int (zz ↑fr), .int (zz (↑(Q.length)))]), (fl, hO (tnF np kd lf qt wd (stF (fdF kd np 0) f pl) i)), (p, ob 2 [.ref pK, .ref pL, .ref pQ, .ref pW, .ref pX, .ref pY, .ref pS, .int (zz ↑np), .int (zz ↑nr)]), (pK, aI E 7 kd), (pL, aI E 7 lf), (pQ, aI E 7 qt), (pW, aI E 10 wd)]) := by
  show RR E mX1_after (d + 4) 0 0 0 [(0, .ref o), (1, .int (zz ↑pl)), (2, .int (zz ↑i))] [] [(o, ob 1 [.ref p, .ref fl, .ref ln, .ref mt, .int (zz ↑fr), .int (zz (↑(Q.length)))]), (fl, hO f), (p, ob 2 [.ref pK, .ref pL, .ref pQ, .ref pW, .ref pX, .ref pY, .ref pS, .int (zz ↑np), .int (zz ↑nr)]), (pK, aI E 7 kd), (pL, aI E 7 lf), (pQ, aI E 7 qt), (pW, aI E 10 wd)] (FP (some (.int (zz (↑(nxF np kd lf qt wd (f 5) pl i))))) [(o, ob 1 [.ref p, .ref fl, .ref ln, .ref mt, .int (zz ↑fr), .int (zz (↑(Q.length)))]), (fl, hO (tnF np kd lf qt wd (stF (fdF kd np 0) f pl) i)), (p, ob 2 [.ref pK, .ref pL, .ref pQ, .ref pW, .ref pX, .ref pY, .ref pS, .int (zz ↑np), .int (zz ↑nr)]), (pK, aI E 7 kd), (pL, aI E 7 lf), (pQ, aI E 7 qt), (pW, aI E 10 wd)])
  refine rr_aload_n 0 dX1_after_0 rfl ?_
  refine rr_iload_n 1 dX1_after_1 rfl ?_
  have ke_1 : stF (fdF kd np 0) f pl 5 = f 5 := rfl
  have ke_2 : stF (fdF kd np 0) f pl 2 = ↑(pl / 800) := rfl
  have ke_3 : stF (fdF kd np 0) f pl 0 = (↑(pl / 8) : Int) % 10 := rfl
  have ke_4 : stF (fdF kd np 0) f pl 1 = (↑(pl / 8) : Int) / 10 % 10 := rfl
  refine rr_callFv (ws2 := [(o, ob 1 [.ref p, .ref fl, .ref ln, .ref mt, .int (zz ↑fr), .int (zz (↑(Q.length)))]), (fl, hO (stF (fdF kd np 0) f pl)), (p, ob 2 [.ref pK, .ref pL, .ref pQ, .ref pW, .ref pX, .ref pY, .ref pS, .int (zz ↑np), .int (zz ↑nr)]), (pK, aI E 7 kd), (pL, aI E 7 lf), (pQ, aI E 7 qt), (pW, aI E 10 wd)]) (wr := [(pL, aI E 7 lf), (pQ, aI E 7 qt), (pW, aI E 10 wd)]) (call_V (q0 := 0) kX1_57 (c_standAt E (d + 2) p pK pL pQ pW pX pY pS np nr o fl ln mt fr Q kd lf qt wd f pl hp (by omega)) rfl rfl rfl rfl (by omega) (by decide) (Nat.le_of_ble_eq_true rfl) (Nat.le_of_ble_eq_true rfl) dX1_after_2) [0, 1, 2, 3] [4, 5, 6] [3, 4, 5, 6, 0, 1, 2] rfl rfl rfl rfl rfl rfl rfl ?_
  refine rr_aload_n 0 dX1_after_5 rfl ?_
  refine rr_get fX1_25 0 rfl rfl dX1_after_6 ?_
  refine rr_aload_n 0 dX1_after_9 rfl ?_
  refine rr_get fX1_12 0 rfl rfl dX1_after_10 ?_
  refine rr_iload_n 2 dX1_after_13 rfl ?_
  refine rr_callFv (ws2 := [(o, ob 1 [.ref p, .ref fl, .ref ln, .ref mt, .int (zz ↑fr), .int (zz (↑(Q.length)))]), (fl, hO (tnF np kd lf qt wd (stF (fdF kd np 0) f pl) i)), (p, ob 2 [.ref pK, .ref pL, .ref pQ, .ref pW, .ref pX, .ref pY, .ref pS, .int (zz ↑np), .int (zz ↑nr)]), (pK, aI E 7 kd), (pL, aI E 7 lf), (pQ, aI E 7 qt), (pW, aI E 10 wd)]) (wr := [(o, ob 1 [.ref p, .ref fl, .ref ln, .ref mt, .int (zz ↑fr), .int (zz (↑(Q.length)))])]) (call_V (q0 := 0) kX1_83 (c_turnPeg E (d + 0) p pK pL pQ pW pX pY pS np nr fl kd lf qt wd (stF (fdF kd np 0) f pl) i hp (stF_ok (kd := kd) hp.1 (by omega) (by omega : pl < 8000)) (by omega)) rfl rfl rfl rfl (by omega) (by decide) (Nat.le_of_ble_eq_true rfl) (Nat.le_of_ble_eq_true rfl) dX1_after_14) [2, 3, 4, 5, 6, 1] [0] [0, 6, 1, 2, 3, 4, 5] rfl rfl rfl rfl rfl rfl rfl ?_
  refine rr_aload_n 0 dX1_after_17 rfl ?_
  refine rr_aload_n 0 dX1_after_18 rfl ?_
  refine rr_get fX1_12 0 rfl rfl dX1_after_19 ?_
  refine rr_callFi (ws2 := [(o, ob 1 [.ref p, .ref fl, .ref ln, .ref mt, .int (zz ↑fr), .int (zz (↑(Q.length)))]), (fl, hO (tnF np kd lf qt wd (stF (fdF kd np 0) f pl) i)), (p, ob 2 [.ref pK, .ref pL, .ref pQ, .ref pW, .ref pX, .ref pY, .ref pS, .int (zz ↑np), .int (zz ↑nr)]), (pK, aI E 7 kd), (pL, aI E 7 lf), (pQ, aI E 7 qt), (pW, aI E 10 wd)]) (wr := [(pL, aI E 7 lf), (pQ, aI E 7 qt), (pW, aI E 10 wd)]) (call_V (q0 := 0) kX1_87 (c_placeOf E (d + 1) p pK pL pQ pW pX pY pS np nr o fl ln mt fr Q fl kd lf qt wd (tnF np kd lf qt wd (stF (fdF kd np 0) f pl) i) hp (tnF_ok hp (stF_ok (kd := kd) hp.1 (by omega) (by omega : pl < 8000)) (by omega : i < np))) rfl rfl rfl rfl (by omega) (by decide) (Nat.le_of_ble_eq_true rfl) (Nat.le_of_ble_eq_true rfl) dX1_after_22) [0, 2, 3, 1] [4, 5, 6] [3, 6, 4, 5, 0, 1, 2] rfl rfl rfl rfl rfl rfl rfl ?_
  exact rr_iret dX1_after_25 rfl rfl ⟨congrArg (fun z => some (Value.int (zz z))) (by rw [nxF_eq]), rfl⟩
set_option maxRecDepth 100000 in
set_option maxHeartbeats 1000000 in
theorem c_enter (E : Ev) (d : Nat) (p pK pL pQ pW pX pY pS : Nat) (np nr : Nat) (o fl ln mt fr : Nat) (Q : Qu) (a : Nat) (kd lf qt wd f h : Nat → Int) (hp : pOK np kd lf qt wd) (ho : hOK h) : SP E mX1_enter (d + 3) 0 0 [.ref o, .ref a] [(o, ob 1 [.ref p, .ref fl, .ref ln, .ref mt, .int (zz ↑fr), .int (zz (↑(Q.length)))]), (fl, hO f), (p, ob 2 [.ref pK, .ref pL, .ref pQ, .ref pW, .ref pX, .ref pY, .ref pS, .int (zz ↑np), .int (zz ↑nr)]), (pK, aI E 7 kd), (a, hO h)] (FP (some (.int (zz (↑(plN np kd h))))) [(o, ob 1 [.ref p, .ref fl, .ref ln, .ref mt, .int (zz ↑fr), .int (zz (↑(Q.length)))]), (fl, hO (updI f 5 (h 5))), (p, ob 2 [.ref pK, .ref pL, .ref pQ, .ref pW, .ref pX, .ref pY, .ref pS, .int (zz ↑np), .int (zz ↑nr)]), (pK, aI E 7 kd), (a, hO h)]) := by
  show RR E mX1_enter (d + 3) 0 0 0 [(0, .ref o), (1, .ref a)] [] [(o, ob 1 [.ref p, .ref fl, .ref ln, .ref mt, .int (zz ↑fr), .int (zz (↑(Q.length)))]), (fl, hO f), (p, ob 2 [.ref pK, .ref pL, .ref pQ, .ref pW, .ref pX, .ref pY, .ref pS, .int (zz ↑np), .int (zz ↑nr)]), (pK, aI E 7 kd), (a, hO h)] (FP (some (.int (zz (↑(plN np kd h))))) [(o, ob 1 [.ref p, .ref fl, .ref ln, .ref mt, .int (zz ↑fr), .int (zz (↑(Q.length)))]), (fl, hO (updI f 5 (h 5))), (p, ob 2 [.ref pK, .ref pL, .ref pQ, .ref pW, .ref pX, .ref pY, .ref pS, .int (zz ↑np), .int (zz ↑nr)]), (pK, aI E 7 kd), (a, hO h)])
  refine rr_aload_n 0 dX1_enter_0 rfl ?_
  refine rr_get fX1_12 0 rfl rfl dX1_enter_1 ?_
  refine rr_aload_n 1 dX1_enter_4 rfl ?_
  refine rr_get fX1_90 4 rfl rfl dX1_enter_5 ?_
  refine rr_put (ws2 := [(o, ob 1 [.ref p, .ref fl, .ref ln, .ref mt, .int (zz ↑fr), .int (zz (↑(Q.length)))]), (fl, hO (updI f 5 (h 5))), (p, ob 2 [.ref pK, .ref pL, .ref pQ, .ref pW, .ref pX, .ref pY, .ref pS, .int (zz ↑np), .int (zz ↑nr)]), (pK, aI E 7 kd), (a, hO h)]) fX1_90 1 rfl rfl rfl (Nat.le_of_ble_eq_true rfl) rfl dX1_enter_8 ?_
  refine rr_aload_n 0 dX1_enter_11 rfl ?_
  refine rr_aload_n 1 dX1_enter_12 rfl ?_
  refine rr_callFi (ws2 := [(o, ob 1 [.ref p, .ref fl, .ref ln, .ref mt, .int (zz ↑fr), .int (zz (↑(Q.length)))]), (fl, hO (updI f 5 (h 5))), (p, ob 2 [.ref pK, .ref pL, .ref pQ, .ref pW, .ref pX, .ref pY, .ref pS, .int (zz ↑np), .int (zz ↑nr)]), (pK, aI E 7 kd), (a, hO h)]) (wr := [(fl, hO (updI f 5 (h 5)))]) (call_V (q0 := 0) kX1_87 (c_placeOf E (d + 0) p pK pL pQ pW pX pY pS np nr o fl ln mt fr Q a kd lf qt wd h hp ho) rfl rfl rfl rfl (by omega) (by decide) (Nat.le_of_ble_eq_true rfl) (Nat.le_of_ble_eq_true rfl) dX1_enter_13) [0, 2, 3, 4] [1] [1, 0, 2, 3, 4] rfl rfl rfl rfl rfl rfl rfl ?_
  exact rr_iret dX1_enter_16 rfl rfl ⟨rfl, rfl⟩
set_option maxRecDepth 100000 in
set_option maxHeartbeats 1000000 in
theorem c_isLanding (E : Ev) (d : Nat) (p pK pL pQ pW pX pY pS : Nat) (np nr : Nat) (o fl ln mt fr : Nat) (Q : Qu) (kd lf qt wd rx ry f : Nat → Int) (pl : Nat) (hp : pOK np kd lf qt wd) (hr : rOK nr rx ry) (hf : 1 ≤ f 5 ∧ f 5 ≤ 2) (hl : pl < 8000) : SP E mX1_isLanding (d + 2) 0 0 [.ref o, .int (zz ↑pl)] [(o, ob 1 [.ref p, .ref fl, .ref ln, .ref mt, .int (zz ↑fr), .int (zz (↑(Q.length)))]), (fl, hO f), (p, ob 2 [.ref pK, .ref pL, .ref pQ, .ref pW, .ref pX, .ref pY, .ref pS, .int (zz ↑np), .int (zz ↑nr)]), (pK, aI E 7 kd), (pX, aI E 6 rx), (pY, aI E 6 ry)] (FP (some (.int (zz (bI (decide (((pl / 800 : Nat) : Int) = 0) && anyTo (roofF rx ry (((pl / 8 : Nat) : Int) % 10) (((pl / 8 : Nat) : Int) / 10 % 10)) nr))))) [(o, ob 1 [.ref p, .ref fl, .ref ln, .ref mt, .int (zz ↑fr), .int (zz (↑(Q.length)))]), (fl, hO (stF (fdF kd np 0) f pl)), (p, ob 2 [.ref pK, .ref pL, .ref pQ, .ref pW, .ref pX, .ref pY, .ref pS, .int (zz ↑np), .int (zz ↑nr)]), (pK, aI E 7 kd), (pX, aI E 6 rx), (pY, aI E 6 ry)]) := by
  show RR E mX1_isLanding (d + 2) 0 0 0 [(0, .ref o), (1, .int (zz ↑pl))] [] [(o, ob 1 [.ref p, .ref fl, .ref ln, .ref mt, .int (zz ↑fr), .int (zz (↑(Q.length)))]), (fl, hO f), (p, ob 2 [.ref pK, .ref pL, .ref pQ, .ref pW, .ref pX, .ref pY, .ref pS, .int (zz ↑np), .int (zz ↑nr)]), (pK, aI E 7 kd), (pX, aI E 6 rx), (pY, aI E 6 ry)] (FP (some (.int (zz (bI (decide (((pl / 800 : Nat) : Int) = 0) && anyTo (roofF rx ry (((pl / 8 : Nat) : Int) % 10) (((pl / 8 : Nat) : Int) / 10 % 10)) nr))))) [(o, ob 1 [.ref p, .ref fl, .ref ln, .ref mt, .int (zz ↑fr), .int (zz (↑(Q.length)))]), (fl, hO (stF (fdF kd np 0) f pl)), (p, ob 2 [.ref pK, .ref pL, .ref pQ, .ref pW, .ref pX, .ref pY, .ref pS, .int (zz ↑np), .int (zz ↑nr)]), (pK, aI E 7 kd), (pX, aI E 6 rx), (pY, aI E 6 ry)])
  refine rr_aload_n 0 dX1_isLanding_0 rfl ?_
  refine rr_iload_n 1 dX1_isLanding_1 rfl ?_
  have ke_1 : stF (fdF kd np 0) f pl 5 = f 5 := rfl
  have ke_2 : stF (fdF kd np 0) f pl 2 = ↑(pl / 800) := rfl
  have ke_3 : stF (fdF kd np 0) f pl 0 = (↑(pl / 8) : Int) % 10 := rfl
  have ke_4 : stF (fdF kd np 0) f pl 1 = (↑(pl / 8) : Int) / 10 % 10 := rfl
  refine rr_callFv (ws2 := [(o, ob 1 [.ref p, .ref fl, .ref ln, .ref mt, .int (zz ↑fr), .int (zz (↑(Q.length)))]), (fl, hO (stF (fdF kd np 0) f pl)), (p, ob 2 [.ref pK, .ref pL, .ref pQ, .ref pW, .ref pX, .ref pY, .ref pS, .int (zz ↑np), .int (zz ↑nr)]), (pK, aI E 7 kd), (pX, aI E 6 rx), (pY, aI E 6 ry)]) (wr := [(pX, aI E 6 rx), (pY, aI E 6 ry)]) (call_V (q0 := 0) kX1_57 (c_standAt E (d + 0) p pK pL pQ pW pX pY pS np nr o fl ln mt fr Q kd lf qt wd f pl hp (by omega)) rfl rfl rfl rfl (by omega) (by decide) (Nat.le_of_ble_eq_true rfl) (Nat.le_of_ble_eq_true rfl) dX1_isLanding_2) [0, 1, 2, 3] [4, 5] [2, 3, 4, 5, 0, 1] rfl rfl rfl rfl rfl rfl rfl ?_
  refine rr_aload_n 0 dX1_isLanding_5 rfl ?_
  refine rr_get fX1_25 0 rfl rfl dX1_isLanding_6 ?_
  refine rr_aload_n 0 dX1_isLanding_9 rfl ?_
  refine rr_get fX1_12 0 rfl rfl dX1_isLanding_10 ?_
  refine rr_callFi (ws2 := [(o, ob 1 [.ref p, .ref fl, .ref ln, .ref mt, .int (zz ↑fr), .int (zz (↑(Q.length)))]), (fl, hO (stF (fdF kd np 0) f pl)), (p, ob 2 [.ref pK, .ref pL, .ref pQ, .ref pW, .ref pX, .ref pY, .ref pS, .int (zz ↑np), .int (zz ↑nr)]), (pK, aI E 7 kd), (pX, aI E 6 rx), (pY, aI E 6 ry)]) (wr := [(o, ob 1 [.ref p, .ref fl, .ref ln, .ref mt, .int (zz ↑fr), .int (zz (↑(Q.length)))]), (pK, aI E 7 kd)]) (call_V (q0 := 0) kX1_110 (c_hasLanded E (d + 0) p pK pL pQ pW pX pY pS np nr fl rx ry (stF (fdF kd np 0) f pl) hr (stF_ok (kd := kd) hp.1 (by omega) (by omega : pl < 8000))) rfl rfl rfl rfl (by omega) (by decide) (Nat.le_of_ble_eq_true rfl) (Nat.le_of_ble_eq_true rfl) dX1_isLanding_13) [2, 4, 5, 1] [0, 3] [0, 5, 2, 1, 3, 4] rfl rfl rfl rfl rfl rfl rfl ?_
  exact rr_iret dX1_isLanding_16 rfl (nar_b _) ⟨rfl, rfl⟩
set_option maxRecDepth 100000 in
set_option maxHeartbeats 1000000 in
theorem c_meet (E : Ev) (d : Nat) (p fl : Nat) (o ln mt fr : Nat) (Q : Qu) (lin mts : Nat → Int) (pa pl : Nat) (hq : QI lin mts Q) (hpa : pa < 262144) (hl : pl < 8000) : SP E mX1_meet (d + 0) 0 0 [.ref o, .int (zz ↑pa), .int (zz ↑pl)] [(o, ob 1 [.ref p, .ref fl, .ref ln, .ref mt, .int (zz ↑fr), .int (zz (↑(Q.length)))]), (ln, aI E 8000 lin), (mt, aI E 250 mts)] (fun v w => v = none ∧ ∃ lin2 mts2 : Nat → Int, QI lin2 mts2 (mtF Q (pa, pl)) ∧ w = [(o, ob 1 [.ref p, .ref fl, .ref ln, .ref mt, .int (zz (fr : Int)), .int (zz ((mtF Q (pa, pl)).length : Int))]), (ln, aI E 8000 lin2), (mt, aI E 250 mts2)]) := by
  show RR E mX1_meet (d + 0) 0 0 0 [(0, .ref o), (1, .int (zz ↑pa)), (2, .int (zz ↑pl))] [] [(o, ob 1 [.ref p, .ref fl, .ref ln, .ref mt, .int (zz ↑fr), .int (zz (↑(Q.length)))]), (ln, aI E 8000 lin), (mt, aI E 250 mts)] (fun v w => v = none ∧ ∃ lin2 mts2 : Nat → Int, QI lin2 mts2 (mtF Q (pa, pl)) ∧ w = [(o, ob 1 [.ref p, .ref fl, .ref ln, .ref mt, .int (zz (fr : Int)), .int (zz ((mtF Q (pa, pl)).length : Int))]), (ln, aI E 8000 lin2), (mt, aI E 250 mts2)])
  have hq1 := hq.1
  refine rr_iload_n 2 dX1_meet_0 rfl ?_
  refine rr_if_lt 21 dX1_meet_1 (by decide) (by omega) (fun c_1 => ?_) (fun c_1 => ?_)
  · skip
    exfalso; omega
  · skip
    refine rr_iload_n 2 dX1_meet_4 rfl ?_
    refine rr_sipush dX1_meet_5 (by decide) ?_
    refine rr_icmp_ge 21 dX1_meet_8 (by decide) (by omega) (by omega) (fun c_2 => ?_) (fun c_2 => ?_)
    · skip
      exfalso; omega
    · skip
      refine rr_aload_n 0 dX1_meet_11 rfl ?_
      refine rr_get fX1_33 0 rfl rfl dX1_meet_12 ?_
      refine rr_sipush dX1_meet_15 (by decide) ?_
      refine rr_icmp_lt 22 dX1_meet_18 (by decide) (by omega) (by omega) (fun c_3 => ?_) (fun c_3 => ?_)
      · skip
        refine rr_iconst dX1_meet_22 ?_
        refine rr_iload_n 2 dX1_meet_23 rfl ?_
        refine rr_bipush dX1_meet_24 (by decide) ?_
        refine rr_iand (r := ↑pl % 32) 5 dX1_meet_26 (by decide) (by decide +kernel) rfl ?_
        refine rr_top (b := ↑(pl % 32)) (by omega) ?_
        refine rr_ishlX (v := bitX (pl % 32)) dX1_meet_27 rfl ?_
        refine rr_istore_n (lv2 := [(0, .ref o), (1, .int (zz ↑pa)), (2, .int (zz ↑pl)), (3, .int (bitX (pl % 32)))]) dX1_meet_28 (by decide) rfl ?_
        refine rr_aload_n 0 dX1_meet_29 rfl ?_
        refine rr_get fX1_22 0 rfl rfl dX1_meet_30 ?_
        refine rr_iload_n 2 dX1_meet_33 rfl ?_
        refine rr_iconst dX1_meet_34 ?_
        refine rr_ishr (n := pl) (k := 5) dX1_meet_35 (by omega) (by decide) ?_
        refine rr_top (b := ↑(pl / 32)) rfl ?_
        refine rr_iald 2 (pl / 32) rfl rfl (by omega) (by omega) dX1_meet_36 ?_
        refine rr_iload_n 3 dX1_meet_37 rfl ?_
        refine rr_iandX (v := zz (mts (pl / 32)) &&& bitX (pl % 32)) dX1_meet_38 rfl ?_
        refine rr_if_neX 79 dX1_meet_39 (by decide) (fun hb => ?_) (fun hb => ?_)
        · skip
          have hm : pl ∈ Q.map Prod.snd := (hq.2.2.1 pl hl).mp (by cases hc : btI (mts (pl / 32)) (pl % 32) with | true => rfl | false => exact absurd ((btI_and (by omega)).mpr hc) hb)
          exact rr_ret dX1_meet_79 rfl ⟨rfl, lin, mts, by rw [show mtF Q (pa, pl) = Q from if_pos hm]; exact hq, by rw [show mtF Q (pa, pl) = Q from if_pos hm]⟩
        · skip
          have hm : pl ∉ Q.map Prod.snd := fun z => by rw [← hq.2.2.1 pl hl, (btI_and (by omega)).mp hb] at z; cases z
          refine rr_aload_n 0 dX1_meet_42 rfl ?_
          refine rr_get fX1_22 0 rfl rfl dX1_meet_43 ?_
          refine rr_iload_n 2 dX1_meet_46 rfl ?_
          refine rr_iconst dX1_meet_47 ?_
          refine rr_ishr (n := pl) (k := 5) dX1_meet_48 (by omega) (by decide) ?_
          refine rr_top (b := ↑(pl / 32)) rfl ?_
          refine rr_dup2 dX1_meet_49 rfl rfl ?_
          refine rr_iald 2 (pl / 32) rfl rfl (by omega) (by omega) dX1_meet_50 ?_
          refine rr_iload_n 3 dX1_meet_51 rfl ?_
          refine rr_iorX (v := zz (orX (mts (pl / 32)) (pl % 32))) dX1_meet_52 (orX_eq _ _) ?_
          refine rr_iast (ws2 := [(o, ob 1 [.ref p, .ref fl, .ref ln, .ref mt, .int (zz ↑fr), .int (zz (↑(Q.length)))]), (ln, aI E 8000 lin), (mt, aI E 250 (updI mts (pl / 32) (orX (mts (pl / 32)) (pl % 32))))]) 2 (pl / 32) rfl rfl (by omega) (by omega) rfl dX1_meet_53 ?_
          refine rr_aload_n 0 dX1_meet_54 rfl ?_
          refine rr_get fX1_18 0 rfl rfl dX1_meet_55 ?_
          refine rr_aload_n 0 dX1_meet_58 rfl ?_
          refine rr_get fX1_33 0 rfl rfl dX1_meet_59 ?_
          refine rr_iload_n 1 dX1_meet_62 rfl ?_
          refine rr_bipush dX1_meet_63 (by decide) ?_
          refine rr_ishl (n := pa) (k := 13) dX1_meet_65 (by decide) (by omega) ?_
          refine rr_iload_n 2 dX1_meet_66 rfl ?_
          refine rr_ior (a := pa * 2 ^ 13) (b := pl) dX1_meet_67 ?_
          refine rr_top (b := ↑(pa * 8192 + pl)) (by rw [or_line pa pl hl]) ?_
          refine rr_iast (ws2 := [(o, ob 1 [.ref p, .ref fl, .ref ln, .ref mt, .int (zz ↑fr), .int (zz (↑(Q.length)))]), (ln, aI E 8000 (updI lin (Q.length) (↑(pa * 8192 + pl)))), (mt, aI E 250 (updI mts (pl / 32) (orX (mts (pl / 32)) (pl % 32))))]) 1 (Q.length) rfl rfl (by omega) (by omega) rfl dX1_meet_68 ?_
          refine rr_aload_n 0 dX1_meet_69 rfl ?_
          refine rr_dup dX1_meet_70 rfl ?_
          refine rr_get fX1_33 0 rfl rfl dX1_meet_71 ?_
          refine rr_iconst dX1_meet_74 ?_
          refine rr_iadd dX1_meet_75 ?_
          refine rr_put (ws2 := [(o, ob 1 [.ref p, .ref fl, .ref ln, .ref mt, .int (zz ↑fr), .int (zz (↑(Q.length + 1)))]), (ln, aI E 8000 (updI lin (Q.length) (↑(pa * 8192 + pl)))), (mt, aI E 250 (updI mts (pl / 32) (orX (mts (pl / 32)) (pl % 32))))]) fX1_33 0 rfl rfl rfl (Nat.le_of_ble_eq_true rfl) rfl dX1_meet_76 ?_
          exact rr_ret dX1_meet_79 rfl ⟨rfl, _, _, by rw [show mtF Q (pa, pl) = Q ++ [(pa, pl)] from if_neg hm]; exact QI_add hq (by omega) hl hm, by rw [show mtF Q (pa, pl) = Q ++ [(pa, pl)] from if_neg hm, List.length_append]; rfl⟩
      · skip
        exact rr_ret dX1_meet_21 rfl ⟨rfl, lin, mts, by rw [show mtF Q (pa, pl) = Q from if_pos (QI_full hq (by omega) hl)]; exact hq, by rw [show mtF Q (pa, pl) = Q from if_pos (QI_full hq (by omega) hl)]⟩
set_option maxRecDepth 100000 in
set_option maxHeartbeats 1000000 in
theorem c_beginO (E : Ev) (d : Nat) (p pK pL pQ pW pX pY pS : Nat) (np nr : Nat) (o fl ln mt fr : Nat) (Q : Qu) (a : Nat) (kd lf qt wd f h lin mts : Nat → Int) (hp : pOK np kd lf qt wd) (ho : hOK h) : SP E mX1_startAt (d + 4) 0 0 [.ref o, .ref a] [(o, ob 1 [.ref p, .ref fl, .ref ln, .ref mt, .int (zz ↑fr), .int (zz (↑(Q.length)))]), (fl, hO f), (ln, aI E 8000 lin), (mt, aI E 250 mts), (p, ob 2 [.ref pK, .ref pL, .ref pQ, .ref pW, .ref pX, .ref pY, .ref pS, .int (zz ↑np), .int (zz ↑nr)]), (pK, aI E 7 kd), (a, hO h)] (fun v w => v = none ∧ ∃ lin2 mts2 : Nat → Int, QI lin2 mts2 [(0, plN np kd h)] ∧ w = ouW E o p fl ln mt 0 [(0, plN np kd h)] (updI f 5 (h 5)) lin2 mts2 ++ [(p, ob 2 [.ref pK, .ref pL, .ref pQ, .ref pW, .ref pX, .ref pY, .ref pS, .int (zz ↑np), .int (zz ↑nr)]), (pK, aI E 7 kd), (a, hO h)]) := by
  show RR E mX1_startAt (d + 4) 0 0 0 [(0, .ref o), (1, .ref a)] [] [(o, ob 1 [.ref p, .ref fl, .ref ln, .ref mt, .int (zz ↑fr), .int (zz (↑(Q.length)))]), (fl, hO f), (ln, aI E 8000 lin), (mt, aI E 250 mts), (p, ob 2 [.ref pK, .ref pL, .ref pQ, .ref pW, .ref pX, .ref pY, .ref pS, .int (zz ↑np), .int (zz ↑nr)]), (pK, aI E 7 kd), (a, hO h)] (fun v w => v = none ∧ ∃ lin2 mts2 : Nat → Int, QI lin2 mts2 [(0, plN np kd h)] ∧ w = ouW E o p fl ln mt 0 [(0, plN np kd h)] (updI f 5 (h 5)) lin2 mts2 ++ [(p, ob 2 [.ref pK, .ref pL, .ref pQ, .ref pW, .ref pX, .ref pY, .ref pS, .int (zz ↑np), .int (zz ↑nr)]), (pK, aI E 7 kd), (a, hO h)])
  have hpl := plN_lt (np := np) (kd := kd) ho
  have lp : ∀ (n i : Nat), i ≤ 250 → 250 < i + n → RR E mX1_startAt (d + 4) 0 0 2 [(0, .ref o), (1, .ref a), (2, .int (zz ↑i))] [] [(o, ob 1 [.ref p, .ref fl, .ref ln, .ref mt, .int (zz ↑fr), .int (zz (↑(Q.length)))]), (fl, hO f), (ln, aI E 8000 lin), (mt, aI E 250 (fillI mts i 0)), (p, ob 2 [.ref pK, .ref pL, .ref pQ, .ref pW, .ref pX, .ref pY, .ref pS, .int (zz ↑np), .int (zz ↑nr)]), (pK, aI E 7 kd), (a, hO h)] (fun v w => v = none ∧ ∃ lin2 mts2 : Nat → Int, QI lin2 mts2 [(0, plN np kd h)] ∧ w = ouW E o p fl ln mt 0 [(0, plN np kd h)] (updI f 5 (h 5)) lin2 mts2 ++ [(p, ob 2 [.ref pK, .ref pL, .ref pQ, .ref pW, .ref pX, .ref pY, .ref pS, .int (zz ↑np), .int (zz ↑nr)]), (pK, aI E 7 kd), (a, hO h)]) := by
    intro n
    induction n with
    | zero => intro i h1 h2; exfalso; omega
    | succ n ih =>
      intro i h1 h2
      refine rr_iload_n 2 dX1_startAt_2 rfl ?_
      refine rr_aload_n 0 dX1_startAt_3 rfl ?_
      refine rr_get fX1_22 0 rfl rfl dX1_startAt_4 ?_
      refine rr_alenI 3 rfl dX1_startAt_7 ?_
      refine rr_icmp_ge 24 dX1_startAt_8 (by decide) (by omega) (by omega) (fun c_1 => ?_) (fun c_1 => ?_)
      · skip
        obtain rfl : i = 250 := by omega
        have hq : QI lin (fillI mts 250 0) [] := ⟨by decide, fun i e h => by simp at h, fun x hx => by rw [show fillI mts 250 0 (x / 32) = 0 from if_pos (by omega), btI_0]; simp, List.nodup_nil, fun e h => by cases h⟩
        refine rr_aload_n 0 dX1_startAt_24 rfl ?_
        refine rr_iconst dX1_startAt_25 ?_
        refine rr_put (ws2 := [(o, ob 1 [.ref p, .ref fl, .ref ln, .ref mt, .int (zz 0), .int (zz (↑(Q.length)))]), (fl, hO f), (ln, aI E 8000 lin), (mt, aI E 250 (fillI mts 250 0)), (p, ob 2 [.ref pK, .ref pL, .ref pQ, .ref pW, .ref pX, .ref pY, .ref pS, .int (zz ↑np), .int (zz ↑nr)]), (pK, aI E 7 kd), (a, hO h)]) fX1_29 0 rfl rfl rfl (Nat.le_of_ble_eq_true rfl) rfl dX1_startAt_26 ?_
        refine rr_aload_n 0 dX1_startAt_29 rfl ?_
        refine rr_iconst dX1_startAt_30 ?_
        refine rr_put (ws2 := [(o, ob 1 [.ref p, .ref fl, .ref ln, .ref mt, .int (zz 0), .int (zz 0)]), (fl, hO f), (ln, aI E 8000 lin), (mt, aI E 250 (fillI mts 250 0)), (p, ob 2 [.ref pK, .ref pL, .ref pQ, .ref pW, .ref pX, .ref pY, .ref pS, .int (zz ↑np), .int (zz ↑nr)]), (pK, aI E 7 kd), (a, hO h)]) fX1_33 0 rfl rfl rfl (Nat.le_of_ble_eq_true rfl) rfl dX1_startAt_31 ?_
        refine RR.eq (ws2 := [(o, ob 1 [.ref p, .ref fl, .ref ln, .ref mt, .int (zz ↑0), .int (zz (↑(([] : Qu).length)))]), (fl, hO f), (ln, aI E 8000 lin), (mt, aI E 250 (fillI mts 250 0)), (p, ob 2 [.ref pK, .ref pL, .ref pQ, .ref pW, .ref pX, .ref pY, .ref pS, .int (zz ↑np), .int (zz ↑nr)]), (pK, aI E 7 kd), (a, hO h)]) rfl rfl rfl rfl ?_
        refine rr_aload_n 0 dX1_startAt_34 rfl ?_
        refine rr_iconst dX1_startAt_35 ?_
        refine rr_aload_n 0 dX1_startAt_36 rfl ?_
        refine rr_aload_n 1 dX1_startAt_37 rfl ?_
        refine rr_callFi (ws2 := [(o, ob 1 [.ref p, .ref fl, .ref ln, .ref mt, .int (zz ↑0), .int (zz (↑(([] : Qu).length)))]), (fl, hO (updI f 5 (h 5))), (ln, aI E 8000 lin), (mt, aI E 250 (fillI mts 250 0)), (p, ob 2 [.ref pK, .ref pL, .ref pQ, .ref pW, .ref pX, .ref pY, .ref pS, .int (zz ↑np), .int (zz ↑nr)]), (pK, aI E 7 kd), (a, hO h)]) (wr := [(ln, aI E 8000 lin), (mt, aI E 250 (fillI mts 250 0))]) (call_V (q0 := 0) kX1_36 (c_enter E (d + 0) p pK pL pQ pW pX pY pS np nr o fl ln mt 0 ([] : Qu) a kd lf qt wd f h hp ho) rfl rfl rfl rfl (by omega) (by decide) (Nat.le_of_ble_eq_true rfl) (Nat.le_of_ble_eq_true rfl) dX1_startAt_38) [0, 1, 4, 5, 6] [2, 3] [2, 3, 0, 1, 4, 5, 6] rfl rfl rfl rfl rfl rfl rfl ?_
        refine rr_call (wr := [(fl, hO (updI f 5 (h 5))), (p, ob 2 [.ref pK, .ref pL, .ref pQ, .ref pW, .ref pX, .ref pY, .ref pS, .int (zz ↑np), .int (zz ↑nr)]), (pK, aI E 7 kd), (a, hO h)]) (call_V (q0 := 0) kX1_40 (c_meet E (d + 3) p fl o ln mt 0 ([] : Qu) lin (fillI mts 250 0) 0 (plN np kd h) hq (by omega) (by omega)) rfl rfl rfl rfl (by omega) (by decide) (Nat.le_of_ble_eq_true rfl) (Nat.le_of_ble_eq_true rfl) dX1_startAt_41) [0, 2, 3] [1, 4, 5, 6] rfl rfl rfl rfl rfl (Nat.zero_le _) (Nat.zero_le _) (fun v w1 hp => ?_)
        obtain ⟨rfl, lin2, mts2, hq2, rfl⟩ := hp
        refine RR.ws (ws2 := [(o, ob 1 [.ref p, .ref fl, .ref ln, .ref mt, .int (zz ↑0), .int (zz (↑((mtF ([] : Qu) (0, (plN np kd h))).length)))]), (fl, hO (updI f 5 (h 5))), (ln, aI E 8000 lin2), (mt, aI E 250 mts2), (p, ob 2 [.ref pK, .ref pL, .ref pQ, .ref pW, .ref pX, .ref pY, .ref pS, .int (zz ↑np), .int (zz ↑nr)]), (pK, aI E 7 kd), (a, hO h)]) [4, 0, 5, 6, 1, 2, 3] rfl rfl ?_
        refine RR.eq (st2 := []) rfl rfl rfl rfl ?_
        exact rr_ret dX1_startAt_44 rfl ⟨rfl, lin2, mts2, hq2, rfl⟩
      · skip
        refine rr_aload_n 0 dX1_startAt_11 rfl ?_
        refine rr_get fX1_22 0 rfl rfl dX1_startAt_12 ?_
        refine rr_iload_n 2 dX1_startAt_15 rfl ?_
        refine rr_iconst dX1_startAt_16 ?_
        refine rr_iast (ws2 := [(o, ob 1 [.ref p, .ref fl, .ref ln, .ref mt, .int (zz ↑fr), .int (zz (↑(Q.length)))]), (fl, hO f), (ln, aI E 8000 lin), (mt, aI E 250 (updI (fillI mts i 0) i 0)), (p, ob 2 [.ref pK, .ref pL, .ref pQ, .ref pW, .ref pX, .ref pY, .ref pS, .int (zz ↑np), .int (zz ↑nr)]), (pK, aI E 7 kd), (a, hO h)]) 3 i rfl rfl (by omega) (by omega) rfl dX1_startAt_17 ?_
        refine rr_iinc (lv2 := [(0, .ref o), (1, .ref a), (2, .int (zz (↑(i + 1))))]) 2 dX1_startAt_18 rfl (by decide) rfl ?_
        refine rr_goto 2 dX1_startAt_21 (by decide) ?_
        refine RR.eq (ws2 := [(o, ob 1 [.ref p, .ref fl, .ref ln, .ref mt, .int (zz ↑fr), .int (zz (↑(Q.length)))]), (fl, hO f), (ln, aI E 8000 lin), (mt, aI E 250 (fillI mts (i + 1) 0)), (p, ob 2 [.ref pK, .ref pL, .ref pQ, .ref pW, .ref pX, .ref pY, .ref pS, .int (zz ↑np), .int (zz ↑nr)]), (pK, aI E 7 kd), (a, hO h)]) rfl rfl rfl (by rw [fillI_succ]) ?_
        exact ih (i + 1) (by omega) (by omega)
  refine rr_iconst dX1_startAt_0 ?_
  refine rr_istore_n (lv2 := [(0, .ref o), (1, .ref a), (2, .int (zz 0))]) dX1_startAt_1 (by decide) rfl ?_
  refine RR.eq (ws2 := [(o, ob 1 [.ref p, .ref fl, .ref ln, .ref mt, .int (zz ↑fr), .int (zz (↑(Q.length)))]), (fl, hO f), (ln, aI E 8000 lin), (mt, aI E 250 (fillI mts 0 0)), (p, ob 2 [.ref pK, .ref pL, .ref pQ, .ref pW, .ref pX, .ref pY, .ref pS, .int (zz ↑np), .int (zz ↑nr)]), (pK, aI E 7 kd), (a, hO h)]) rfl rfl rfl (by rw [fillI_0]) ?_
  exact lp 251 0 (by omega) (by omega)
