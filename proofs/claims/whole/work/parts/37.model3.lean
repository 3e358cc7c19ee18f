set_option maxRecDepth 100000 in
set_option maxHeartbeats 400000 in
theorem c_settles (E : Ev) (d : Nat) (m mP mW mR mB mS mA mK mE mT mD nP nW nR nB mN mO mQ mX : Nat) (np nr ac ke se tl at_ rp rr : Nat) (dp : Int) (pg0 wn0 ro0 bg0 st pg wn ro bg : Nat → Int) : SP E mX7_settles (d + 1) 0 0 [.ref m] [(m, ob 7 [.int (zz ↑np), .ref mP, .ref mW, .int (zz ↑nr), .ref mR, .ref mB, .ref mS, .int (zz ↑ac), .ref mA, .int (zz ↑ke), .ref mK, .int (zz ↑se), .ref mE, .ref mT, .int (zz ↑tl), .int (zz ↑at_), .ref mD, .int (zz ↑rp), .ref nP, .ref nW, .int (zz ↑rr), .ref nR, .ref nB, .ref mN, .ref mO, .ref mQ, .int (zz dp), .ref mX]), (mP, aI E 21 pg0), (mW, aI E 10 wn0), (mR, aI E 12 ro0), (mB, aI E 7 bg0), (mS, aI E 7 st), (nP, aI E 21 pg), (nW, aI E 10 wn), (nR, aI E 12 ro), (nB, aI E 7 bg)] (FP none [(m, ob 7 [.int (zz ↑rp), .ref mP, .ref mW, .int (zz ↑rr), .ref mR, .ref mB, .ref mS, .int (zz 0), .ref mA, .int (zz 0), .ref mK, .int (zz 0), .ref mE, .ref mT, .int (zz ↑tl), .int (zz ↑at_), .ref mD, .int (zz ↑rp), .ref nP, .ref nW, .int (zz ↑rr), .ref nR, .ref nB, .ref mN, .ref mO, .ref mQ, .int (zz dp), .ref mX]), (mP, aI E 21 (cpI pg0 0 pg 0 21)), (mW, aI E 10 (cpI wn0 0 wn 0 10)), (mR, aI E 12 (cpI ro0 0 ro 0 12)), (mB, aI E 7 (cpI bg0 0 bg 0 7)), (mS, aI E 7 (cpI st 0 (cpI bg0 0 bg 0 7) 0 7)), (nP, aI E 21 pg), (nW, aI E 10 wn), (nR, aI E 12 ro), (nB, aI E 7 bg)]) := by
  show RR E mX7_settles (d + 1) 0 0 0 [(0, .ref m)] [] [(m, ob 7 [.int (zz ↑np), .ref mP, .ref mW, .int (zz ↑nr), .ref mR, .ref mB, .ref mS, .int (zz ↑ac), .ref mA, .int (zz ↑ke), .ref mK, .int (zz ↑se), .ref mE, .ref mT, .int (zz ↑tl), .int (zz ↑at_), .ref mD, .int (zz ↑rp), .ref nP, .ref nW, .int (zz ↑rr), .ref nR, .ref nB, .ref mN, .ref mO, .ref mQ, .int (zz dp), .ref mX]), (mP, aI E 21 pg0), (mW, aI E 10 wn0), (mR, aI E 12 ro0), (mB, aI E 7 bg0), (mS, aI E 7 st), (nP, aI E 21 pg), (nW, aI E 10 wn), (nR, aI E 12 ro), (nB, aI E 7 bg)] (FP none [(m, ob 7 [.int (zz ↑rp), .ref mP, .ref mW, .int (zz ↑rr), .ref mR, .ref mB, .ref mS, .int (zz 0), .ref mA, .int (zz 0), .ref mK, .int (zz 0), .ref mE, .ref mT, .int (zz ↑tl), .int (zz ↑at_), .ref mD, .int (zz ↑rp), .ref nP, .ref nW, .int (zz ↑rr), .ref nR, .ref nB, .ref mN, .ref mO, .ref mQ, .int (zz dp), .ref mX]), (mP, aI E 21 (cpI pg0 0 pg 0 21)), (mW, aI E 10 (cpI wn0 0 wn 0 10)), (mR, aI E 12 (cpI ro0 0 ro 0 12)), (mB, aI E 7 (cpI bg0 0 bg 0 7)), (mS, aI E 7 (cpI st 0 (cpI bg0 0 bg 0 7) 0 7)), (nP, aI E 21 pg), (nW, aI E 10 wn), (nR, aI E 12 ro), (nB, aI E 7 bg)])
  refine rr_aload_n 0 dX7_settles_0 rfl ?_
  refine rr_aload_n 0 dX7_settles_1 rfl ?_
  refine rr_get fX7_78 0 rfl rfl dX7_settles_2 ?_
  refine rr_put (ws2 := [(m, ob 7 [.int (zz ↑rp), .ref mP, .ref mW, .int (zz ↑nr), .ref mR, .ref mB, .ref mS, .int (zz ↑ac), .ref mA, .int (zz ↑ke), .ref mK, .int (zz ↑se), .ref mE, .ref mT, .int (zz ↑tl), .int (zz ↑at_), .ref mD, .int (zz ↑rp), .ref nP, .ref nW, .int (zz ↑rr), .ref nR, .ref nB, .ref mN, .ref mO, .ref mQ, .int (zz dp), .ref mX]), (mP, aI E 21 pg0), (mW, aI E 10 wn0), (mR, aI E 12 ro0), (mB, aI E 7 bg0), (mS, aI E 7 st), (nP, aI E 21 pg), (nW, aI E 10 wn), (nR, aI E 12 ro), (nB, aI E 7 bg)]) fX7_85 0 rfl rfl rfl (Nat.le_of_ble_eq_true rfl) rfl dX7_settles_5 ?_
  refine rr_aload_n 0 dX7_settles_8 rfl ?_
  refine rr_get fX7_7 0 rfl rfl dX7_settles_9 ?_
  refine rr_iconst dX7_settles_12 ?_
  refine rr_aload_n 0 dX7_settles_13 rfl ?_
  refine rr_get fX7_40 0 rfl rfl dX7_settles_14 ?_
  refine rr_iconst dX7_settles_17 ?_
  refine rr_bipush dX7_settles_18 (by decide) ?_
  refine rr_callFv (ws2 := [(m, ob 7 [.int (zz ↑rp), .ref mP, .ref mW, .int (zz ↑nr), .ref mR, .ref mB, .ref mS, .int (zz ↑ac), .ref mA, .int (zz ↑ke), .ref mK, .int (zz ↑se), .ref mE, .ref mT, .int (zz ↑tl), .int (zz ↑at_), .ref mD, .int (zz ↑rp), .ref nP, .ref nW, .int (zz ↑rr), .ref nR, .ref nB, .ref mN, .ref mO, .ref mQ, .int (zz dp), .ref mX]), (mP, aI E 21 (cpI pg0 0 pg 0 21)), (mW, aI E 10 wn0), (mR, aI E 12 ro0), (mB, aI E 7 bg0), (mS, aI E 7 st), (nP, aI E 21 pg), (nW, aI E 10 wn), (nR, aI E 12 ro), (nB, aI E 7 bg)]) (wr := [(m, ob 7 [.int (zz ↑rp), .ref mP, .ref mW, .int (zz ↑nr), .ref mR, .ref mB, .ref mS, .int (zz ↑ac), .ref mA, .int (zz ↑ke), .ref mK, .int (zz ↑se), .ref mE, .ref mT, .int (zz ↑tl), .int (zz ↑at_), .ref mD, .int (zz ↑rp), .ref nP, .ref nW, .int (zz ↑rr), .ref nR, .ref nB, .ref mN, .ref mO, .ref mQ, .int (zz dp), .ref mX]), (mW, aI E 10 wn0), (mR, aI E 12 ro0), (mB, aI E 7 bg0), (mS, aI E 7 st), (nW, aI E 10 wn), (nR, aI E 12 ro), (nB, aI E 7 bg)]) (call_S kX7_138 (c_copies E (d + 0) mP nP 21 21 0 0 21 pg0 pg (by omega) (by omega) (by omega) (by omega)) rfl (by omega) (by decide) (Nat.le_of_ble_eq_true rfl) (Nat.le_of_ble_eq_true rfl) dX7_settles_20) [1, 6] [0, 2, 3, 4, 5, 7, 8, 9] [0, 8, 1, 2, 3, 4, 9, 5, 6, 7] rfl rfl rfl rfl rfl rfl rfl ?_
  refine rr_aload_n 0 dX7_settles_23 rfl ?_
  refine rr_get fX7_13 0 rfl rfl dX7_settles_24 ?_
  refine rr_iconst dX7_settles_27 ?_
  refine rr_aload_n 0 dX7_settles_28 rfl ?_
  refine rr_get fX7_43 0 rfl rfl dX7_settles_29 ?_
  refine rr_iconst dX7_settles_32 ?_
  refine rr_bipush dX7_settles_33 (by decide) ?_
  refine rr_callFv (ws2 := [(m, ob 7 [.int (zz ↑rp), .ref mP, .ref mW, .int (zz ↑nr), .ref mR, .ref mB, .ref mS, .int (zz ↑ac), .ref mA, .int (zz ↑ke), .ref mK, .int (zz ↑se), .ref mE, .ref mT, .int (zz ↑tl), .int (zz ↑at_), .ref mD, .int (zz ↑rp), .ref nP, .ref nW, .int (zz ↑rr), .ref nR, .ref nB, .ref mN, .ref mO, .ref mQ, .int (zz dp), .ref mX]), (mP, aI E 21 (cpI pg0 0 pg 0 21)), (mW, aI E 10 (cpI wn0 0 wn 0 10)), (mR, aI E 12 ro0), (mB, aI E 7 bg0), (mS, aI E 7 st), (nP, aI E 21 pg), (nW, aI E 10 wn), (nR, aI E 12 ro), (nB, aI E 7 bg)]) (wr := [(m, ob 7 [.int (zz ↑rp), .ref mP, .ref mW, .int (zz ↑nr), .ref mR, .ref mB, .ref mS, .int (zz ↑ac), .ref mA, .int (zz ↑ke), .ref mK, .int (zz ↑se), .ref mE, .ref mT, .int (zz ↑tl), .int (zz ↑at_), .ref mD, .int (zz ↑rp), .ref nP, .ref nW, .int (zz ↑rr), .ref nR, .ref nB, .ref mN, .ref mO, .ref mQ, .int (zz dp), .ref mX]), (mP, aI E 21 (cpI pg0 0 pg 0 21)), (mR, aI E 12 ro0), (mB, aI E 7 bg0), (mS, aI E 7 st), (nP, aI E 21 pg), (nR, aI E 12 ro), (nB, aI E 7 bg)]) (call_S kX7_138 (c_copies E (d + 0) mW nW 10 10 0 0 10 wn0 wn (by omega) (by omega) (by omega) (by omega)) rfl (by omega) (by decide) (Nat.le_of_ble_eq_true rfl) (Nat.le_of_ble_eq_true rfl) dX7_settles_35) [2, 7] [0, 1, 3, 4, 5, 6, 8, 9] [0, 1, 8, 2, 3, 4, 5, 9, 6, 7] rfl rfl rfl rfl rfl rfl rfl ?_
  refine rr_aload_n 0 dX7_settles_38 rfl ?_
  refine rr_aload_n 0 dX7_settles_39 rfl ?_
  refine rr_get fX7_82 0 rfl rfl dX7_settles_40 ?_
  refine rr_put (ws2 := [(m, ob 7 [.int (zz ↑rp), .ref mP, .ref mW, .int (zz ↑rr), .ref mR, .ref mB, .ref mS, .int (zz ↑ac), .ref mA, .int (zz ↑ke), .ref mK, .int (zz ↑se), .ref mE, .ref mT, .int (zz ↑tl), .int (zz ↑at_), .ref mD, .int (zz ↑rp), .ref nP, .ref nW, .int (zz ↑rr), .ref nR, .ref nB, .ref mN, .ref mO, .ref mQ, .int (zz dp), .ref mX]), (mP, aI E 21 (cpI pg0 0 pg 0 21)), (mW, aI E 10 (cpI wn0 0 wn 0 10)), (mR, aI E 12 ro0), (mB, aI E 7 bg0), (mS, aI E 7 st), (nP, aI E 21 pg), (nW, aI E 10 wn), (nR, aI E 12 ro), (nB, aI E 7 bg)]) fX7_92 0 rfl rfl rfl (Nat.le_of_ble_eq_true rfl) rfl dX7_settles_43 ?_
  refine rr_aload_n 0 dX7_settles_46 rfl ?_
  refine rr_get fX7_16 0 rfl rfl dX7_settles_47 ?_
  refine rr_iconst dX7_settles_50 ?_
  refine rr_aload_n 0 dX7_settles_51 rfl ?_
  refine rr_get fX7_46 0 rfl rfl dX7_settles_52 ?_
  refine rr_iconst dX7_settles_55 ?_
  refine rr_bipush dX7_settles_56 (by decide) ?_
  refine rr_callFv (ws2 := [(m, ob 7 [.int (zz ↑rp), .ref mP, .ref mW, .int (zz ↑rr), .ref mR, .ref mB, .ref mS, .int (zz ↑ac), .ref mA, .int (zz ↑ke), .ref mK, .int (zz ↑se), .ref mE, .ref mT, .int (zz ↑tl), .int (zz ↑at_), .ref mD, .int (zz ↑rp), .ref nP, .ref nW, .int (zz ↑rr), .ref nR, .ref nB, .ref mN, .ref mO, .ref mQ, .int (zz dp), .ref mX]), (mP, aI E 21 (cpI pg0 0 pg 0 21)), (mW, aI E 10 (cpI wn0 0 wn 0 10)), (mR, aI E 12 (cpI ro0 0 ro 0 12)), (mB, aI E 7 bg0), (mS, aI E 7 st), (nP, aI E 21 pg), (nW, aI E 10 wn), (nR, aI E 12 ro), (nB, aI E 7 bg)]) (wr := [(m, ob 7 [.int (zz ↑rp), .ref mP, .ref mW, .int (zz ↑rr), .ref mR, .ref mB, .ref mS, .int (zz ↑ac), .ref mA, .int (zz ↑ke), .ref mK, .int (zz ↑se), .ref mE, .ref mT, .int (zz ↑tl), .int (zz ↑at_), .ref mD, .int (zz ↑rp), .ref nP, .ref nW, .int (zz ↑rr), .ref nR, .ref nB, .ref mN, .ref mO, .ref mQ, .int (zz dp), .ref mX]), (mP, aI E 21 (cpI pg0 0 pg 0 21)), (mW, aI E 10 (cpI wn0 0 wn 0 10)), (mB, aI E 7 bg0), (mS, aI E 7 st), (nP, aI E 21 pg), (nW, aI E 10 wn), (nB, aI E 7 bg)]) (call_S kX7_138 (c_copies E (d + 0) mR nR 12 12 0 0 12 ro0 ro (by omega) (by omega) (by omega) (by omega)) rfl (by omega) (by decide) (Nat.le_of_ble_eq_true rfl) (Nat.le_of_ble_eq_true rfl) dX7_settles_58) [3, 8] [0, 1, 2, 4, 5, 6, 7, 9] [0, 1, 2, 8, 3, 4, 5, 6, 9, 7] rfl rfl rfl rfl rfl rfl rfl ?_
  refine rr_aload_n 0 dX7_settles_61 rfl ?_
  refine rr_get fX7_19 0 rfl rfl dX7_settles_62 ?_
  refine rr_iconst dX7_settles_65 ?_
  refine rr_aload_n 0 dX7_settles_66 rfl ?_
  refine rr_get fX7_49 0 rfl rfl dX7_settles_67 ?_
  refine rr_iconst dX7_settles_70 ?_
  refine rr_bipush dX7_settles_71 (by decide) ?_
  refine rr_callFv (ws2 := [(m, ob 7 [.int (zz ↑rp), .ref mP, .ref mW, .int (zz ↑rr), .ref mR, .ref mB, .ref mS, .int (zz ↑ac), .ref mA, .int (zz ↑ke), .ref mK, .int (zz ↑se), .ref mE, .ref mT, .int (zz ↑tl), .int (zz ↑at_), .ref mD, .int (zz ↑rp), .ref nP, .ref nW, .int (zz ↑rr), .ref nR, .ref nB, .ref mN, .ref mO, .ref mQ, .int (zz dp), .ref mX]), (mP, aI E 21 (cpI pg0 0 pg 0 21)), (mW, aI E 10 (cpI wn0 0 wn 0 10)), (mR, aI E 12 (cpI ro0 0 ro 0 12)), (mB, aI E 7 (cpI bg0 0 bg 0 7)), (mS, aI E 7 st), (nP, aI E 21 pg), (nW, aI E 10 wn), (nR, aI E 12 ro), (nB, aI E 7 bg)]) (wr := [(m, ob 7 [.int (zz ↑rp), .ref mP, .ref mW, .int (zz ↑rr), .ref mR, .ref mB, .ref mS, .int (zz ↑ac), .ref mA, .int (zz ↑ke), .ref mK, .int (zz ↑se), .ref mE, .ref mT, .int (zz ↑tl), .int (zz ↑at_), .ref mD, .int (zz ↑rp), .ref nP, .ref nW, .int (zz ↑rr), .ref nR, .ref nB, .ref mN, .ref mO, .ref mQ, .int (zz dp), .ref mX]), (mP, aI E 21 (cpI pg0 0 pg 0 21)), (mW, aI E 10 (cpI wn0 0 wn 0 10)), (mR, aI E 12 (cpI ro0 0 ro 0 12)), (mS, aI E 7 st), (nP, aI E 21 pg), (nW, aI E 10 wn), (nR, aI E 12 ro)]) (call_S kX7_138 (c_copies E (d + 0) mB nB 7 7 0 0 7 bg0 bg (by omega) (by omega) (by omega) (by omega)) rfl (by omega) (by decide) (Nat.le_of_ble_eq_true rfl) (Nat.le_of_ble_eq_true rfl) dX7_settles_73) [4, 9] [0, 1, 2, 3, 5, 6, 7, 8] [0, 1, 2, 3, 8, 4, 5, 6, 7, 9] rfl rfl rfl rfl rfl rfl rfl ?_
  refine rr_aload_n 0 dX7_settles_76 rfl ?_
  refine rr_get fX7_22 0 rfl rfl dX7_settles_77 ?_
  refine rr_iconst dX7_settles_80 ?_
  refine rr_aload_n 0 dX7_settles_81 rfl ?_
  refine rr_get fX7_19 0 rfl rfl dX7_settles_82 ?_
  refine rr_iconst dX7_settles_85 ?_
  refine rr_bipush dX7_settles_86 (by decide) ?_
  refine rr_callFv (ws2 := [(m, ob 7 [.int (zz ↑rp), .ref mP, .ref mW, .int (zz ↑rr), .ref mR, .ref mB, .ref mS, .int (zz ↑ac), .ref mA, .int (zz ↑ke), .ref mK, .int (zz ↑se), .ref mE, .ref mT, .int (zz ↑tl), .int (zz ↑at_), .ref mD, .int (zz ↑rp), .ref nP, .ref nW, .int (zz ↑rr), .ref nR, .ref nB, .ref mN, .ref mO, .ref mQ, .int (zz dp), .ref mX]), (mP, aI E 21 (cpI pg0 0 pg 0 21)), (mW, aI E 10 (cpI wn0 0 wn 0 10)), (mR, aI E 12 (cpI ro0 0 ro 0 12)), (mB, aI E 7 (cpI bg0 0 bg 0 7)), (mS, aI E 7 (cpI st 0 (cpI bg0 0 bg 0 7) 0 7)), (nP, aI E 21 pg), (nW, aI E 10 wn), (nR, aI E 12 ro), (nB, aI E 7 bg)]) (wr := [(m, ob 7 [.int (zz ↑rp), .ref mP, .ref mW, .int (zz ↑rr), .ref mR, .ref mB, .ref mS, .int (zz ↑ac), .ref mA, .int (zz ↑ke), .ref mK, .int (zz ↑se), .ref mE, .ref mT, .int (zz ↑tl), .int (zz ↑at_), .ref mD, .int (zz ↑rp), .ref nP, .ref nW, .int (zz ↑rr), .ref nR, .ref nB, .ref mN, .ref mO, .ref mQ, .int (zz dp), .ref mX]), (mP, aI E 21 (cpI pg0 0 pg 0 21)), (mW, aI E 10 (cpI wn0 0 wn 0 10)), (mR, aI E 12 (cpI ro0 0 ro 0 12)), (nP, aI E 21 pg), (nW, aI E 10 wn), (nR, aI E 12 ro), (nB, aI E 7 bg)]) (call_S kX7_138 (c_copies E (d + 0) mS mB 7 7 0 0 7 st (cpI bg0 0 bg 0 7) (by omega) (by omega) (by omega) (by omega)) rfl (by omega) (by decide) (Nat.le_of_ble_eq_true rfl) (Nat.le_of_ble_eq_true rfl) dX7_settles_88) [5, 4] [0, 1, 2, 3, 6, 7, 8, 9] [0, 1, 2, 3, 9, 8, 4, 5, 6, 7] rfl rfl rfl rfl rfl rfl rfl ?_
  refine rr_aload_n 0 dX7_settles_91 rfl ?_
  refine rr_iconst dX7_settles_92 ?_
  refine rr_put (ws2 := [(m, ob 7 [.int (zz ↑rp), .ref mP, .ref mW, .int (zz ↑rr), .ref mR, .ref mB, .ref mS, .int (zz 0), .ref mA, .int (zz ↑ke), .ref mK, .int (zz ↑se), .ref mE, .ref mT, .int (zz ↑tl), .int (zz ↑at_), .ref mD, .int (zz ↑rp), .ref nP, .ref nW, .int (zz ↑rr), .ref nR, .ref nB, .ref mN, .ref mO, .ref mQ, .int (zz dp), .ref mX]), (mP, aI E 21 (cpI pg0 0 pg 0 21)), (mW, aI E 10 (cpI wn0 0 wn 0 10)), (mR, aI E 12 (cpI ro0 0 ro 0 12)), (mB, aI E 7 (cpI bg0 0 bg 0 7)), (mS, aI E 7 (cpI st 0 (cpI bg0 0 bg 0 7) 0 7)), (nP, aI E 21 pg), (nW, aI E 10 wn), (nR, aI E 12 ro), (nB, aI E 7 bg)]) fX7_142 0 rfl rfl rfl (Nat.le_of_ble_eq_true rfl) rfl dX7_settles_93 ?_
  refine rr_aload_n 0 dX7_settles_96 rfl ?_
  refine rr_iconst dX7_settles_97 ?_
  refine rr_put (ws2 := [(m, ob 7 [.int (zz ↑rp), .ref mP, .ref mW, .int (zz ↑rr), .ref mR, .ref mB, .ref mS, .int (zz 0), .ref mA, .int (zz 0), .ref mK, .int (zz ↑se), .ref mE, .ref mT, .int (zz ↑tl), .int (zz ↑at_), .ref mD, .int (zz ↑rp), .ref nP, .ref nW, .int (zz ↑rr), .ref nR, .ref nB, .ref mN, .ref mO, .ref mQ, .int (zz dp), .ref mX]), (mP, aI E 21 (cpI pg0 0 pg 0 21)), (mW, aI E 10 (cpI wn0 0 wn 0 10)), (mR, aI E 12 (cpI ro0 0 ro 0 12)), (mB, aI E 7 (cpI bg0 0 bg 0 7)), (mS, aI E 7 (cpI st 0 (cpI bg0 0 bg 0 7) 0 7)), (nP, aI E 21 pg), (nW, aI E 10 wn), (nR, aI E 12 ro), (nB, aI E 7 bg)]) fX7_145 0 rfl rfl rfl (Nat.le_of_ble_eq_true rfl) rfl dX7_settles_98 ?_
  refine rr_aload_n 0 dX7_settles_101 rfl ?_
  refine rr_iconst dX7_settles_102 ?_
  refine rr_put (ws2 := [(m, ob 7 [.int (zz ↑rp), .ref mP, .ref mW, .int (zz ↑rr), .ref mR, .ref mB, .ref mS, .int (zz 0), .ref mA, .int (zz 0), .ref mK, .int (zz 0), .ref mE, .ref mT, .int (zz ↑tl), .int (zz ↑at_), .ref mD, .int (zz ↑rp), .ref nP, .ref nW, .int (zz ↑rr), .ref nR, .ref nB, .ref mN, .ref mO, .ref mQ, .int (zz dp), .ref mX]), (mP, aI E 21 (cpI pg0 0 pg 0 21)), (mW, aI E 10 (cpI wn0 0 wn 0 10)), (mR, aI E 12 (cpI ro0 0 ro 0 12)), (mB, aI E 7 (cpI bg0 0 bg 0 7)), (mS, aI E 7 (cpI st 0 (cpI bg0 0 bg 0 7) 0 7)), (nP, aI E 21 pg), (nW, aI E 10 wn), (nR, aI E 12 ro), (nB, aI E 7 bg)]) fX7_148 0 rfl rfl rfl (Nat.le_of_ble_eq_true rfl) rfl dX7_settles_103 ?_
  exact rr_ret dX7_settles_106 rfl ⟨rfl, rfl⟩
set_option maxRecDepth 100000 in
set_option maxHeartbeats 400000 in
theorem c_Mlay_no (E : Ev) (d : Nat) (m mP mW mR mB mS mA mK mE mT mD nP nW nR nB mN mO mQ mX : Nat) (np nr ac ke se tl at_ rp rr : Nat) (dp : Int) (tx t pg wn ro bg : Nat → Int) (htx : txOK tx tl) (hnm : nmM t) (R : Int × MSt) (hR : psM tx tl 200 0 t (clrM (rp, pg, wn, rr, ro, bg)) = R) (hc : ¬ (R.1 = -4 ∧ 1 ≤ R.2.1)) : SP E mX7_lay (d + 6) 0 0 [.ref m] [(m, ob 7 [.int (zz ↑np), .ref mP, .ref mW, .int (zz ↑nr), .ref mR, .ref mB, .ref mS, .int (zz ↑ac), .ref mA, .int (zz ↑ke), .ref mK, .int (zz ↑se), .ref mE, .ref mT, .int (zz ↑tl), .int (zz ↑at_), .ref mD, .int (zz ↑rp), .ref nP, .ref nW, .int (zz ↑rr), .ref nR, .ref nB, .ref mN, .ref mO, .ref mQ, .int (zz dp), .ref mX]), (mT, aI E 200 tx), (mD, aI E 4 t), (nP, aI E 21 pg), (nW, aI E 10 wn), (nR, aI E 12 ro), (nB, aI E 7 bg)] (fun v w => v = some (.int (zz (-2))) ∧ ∃ (a2 : Nat) (t2 : Nat → Int), nmM t2 ∧ w = [(m, ob 7 [.int (zz ↑np), .ref mP, .ref mW, .int (zz ↑nr), .ref mR, .ref mB, .ref mS, .int (zz ↑ac), .ref mA, .int (zz ↑ke), .ref mK, .int (zz ↑se), .ref mE, .ref mT, .int (zz ↑tl), .int (zz ↑a2), .ref mD, .int (zz (↑(R.2.1))), .ref nP, .ref nW, .int (zz (↑(R.2.2.2.2.1))), .ref nR, .ref nB, .ref mN, .ref mO, .ref mQ, .int (zz dp), .ref mX]), (mT, aI E 200 tx), (mD, aI E 4 t2), (nP, aI E 21 R.2.2.1), (nW, aI E 10 R.2.2.2.1), (nR, aI E 12 R.2.2.2.2.2.1), (nB, aI E 7 R.2.2.2.2.2.2)]) := by
  show RR E mX7_lay (d + 6) 0 0 0 [(0, .ref m)] [] [(m, ob 7 [.int (zz ↑np), .ref mP, .ref mW, .int (zz ↑nr), .ref mR, .ref mB, .ref mS, .int (zz ↑ac), .ref mA, .int (zz ↑ke), .ref mK, .int (zz ↑se), .ref mE, .ref mT, .int (zz ↑tl), .int (zz ↑at_), .ref mD, .int (zz ↑rp), .ref nP, .ref nW, .int (zz ↑rr), .ref nR, .ref nB, .ref mN, .ref mO, .ref mQ, .int (zz dp), .ref mX]), (mT, aI E 200 tx), (mD, aI E 4 t), (nP, aI E 21 pg), (nW, aI E 10 wn), (nR, aI E 12 ro), (nB, aI E 7 bg)] (fun v w => v = some (.int (zz (-2))) ∧ ∃ (a2 : Nat) (t2 : Nat → Int), nmM t2 ∧ w = [(m, ob 7 [.int (zz ↑np), .ref mP, .ref mW, .int (zz ↑nr), .ref mR, .ref mB, .ref mS, .int (zz ↑ac), .ref mA, .int (zz ↑ke), .ref mK, .int (zz ↑se), .ref mE, .ref mT, .int (zz ↑tl), .int (zz ↑a2), .ref mD, .int (zz (↑(R.2.1))), .ref nP, .ref nW, .int (zz (↑(R.2.2.2.2.1))), .ref nR, .ref nB, .ref mN, .ref mO, .ref mQ, .int (zz dp), .ref mX]), (mT, aI E 200 tx), (mD, aI E 4 t2), (nP, aI E 21 R.2.2.1), (nW, aI E 10 R.2.2.2.1), (nR, aI E 12 R.2.2.2.2.2.1), (nB, aI E 7 R.2.2.2.2.2.2)])
  have hb := psM_bd (tx := tx) (len := tl) 200 0 t (clrM (rp, pg, wn, rr, ro, bg)) (clrM_bd _).1 (clrM_bd _).2
  have hg := psM_rg (tx := tx) (len := tl) 200 0 t (clrM (rp, pg, wn, rr, ro, bg)) htx.1
  rw [hR] at hb hg
  obtain ⟨Rv, rp2, pg2, wn2, rr2, ro2, bg2⟩ := R
  dsimp only at hb hg hc
  refine rr_aload_n 0 dX7_lay_0 rfl ?_
  refine rr_call (wr := []) (call_V (q0 := 0) kX7_134 (c_Mfault E (d + 0) m mP mW mR mB mS mA mK mE mT mD nP nW nR nB mN mO mQ mX np nr ac ke se tl at_ rp rr dp tx t pg wn ro bg htx hnm) rfl rfl rfl rfl (by omega) (by decide) (Nat.le_of_ble_eq_true rfl) (Nat.le_of_ble_eq_true rfl) dX7_lay_1) [0, 1, 2, 3, 4, 5, 6] [] rfl rfl rfl rfl rfl (Nat.zero_le _) (Nat.zero_le _) (fun v w1 hp1 => ?_)
  rw [hR] at hp1
  obtain ⟨rfl, a2, t2, hn2, rfl⟩ := hp1
  refine RR.eq (st2 := [.int (zz Rv)]) (ws2 := [(m, ob 7 [.int (zz ↑np), .ref mP, .ref mW, .int (zz ↑nr), .ref mR, .ref mB, .ref mS, .int (zz ↑ac), .ref mA, .int (zz ↑ke), .ref mK, .int (zz ↑se), .ref mE, .ref mT, .int (zz ↑tl), .int (zz ↑a2), .ref mD, .int (zz ↑rp2), .ref nP, .ref nW, .int (zz ↑rr2), .ref nR, .ref nB, .ref mN, .ref mO, .ref mQ, .int (zz dp), .ref mX]), (mT, aI E 200 tx), (mD, aI E 4 t2), (nP, aI E 21 pg2), (nW, aI E 10 wn2), (nR, aI E 12 ro2), (nB, aI E 7 bg2)]) rfl rfl rfl rfl ?_
  refine rr_bipush dX7_lay_4 (by decide) ?_
  refine rr_icmp_ne 16 dX7_lay_6 (by decide) (by omega) (by omega) (fun c_1 => ?_) (fun c_1 => ?_)
  · skip
    refine rr_bipush dX7_lay_16 (by decide) ?_
    exact rr_iret dX7_lay_18 rfl rfl ⟨rfl, a2, t2, hn2, rfl⟩
  · skip
    refine rr_aload_n 0 dX7_lay_9 rfl ?_
    refine rr_get fX7_78 0 rfl rfl dX7_lay_10 ?_
    refine rr_if_ne 19 dX7_lay_13 (by decide) (by omega) (fun c_2 => ?_) (fun c_2 => ?_)
    · skip
      exfalso; omega
    · skip
      refine rr_bipush dX7_lay_16 (by decide) ?_
      exact rr_iret dX7_lay_18 rfl rfl ⟨rfl, a2, t2, hn2, rfl⟩
set_option maxRecDepth 100000 in
set_option maxHeartbeats 400000 in
theorem c_Mlay_y (E : Ev) (d : Nat) (m mP mW mR mB mS mA mK mE mT mD nP nW nR nB mN mO mQ mX : Nat) (np nr ac ke se tl at_ rp rr : Nat) (dp : Int) (pg0 wn0 ro0 bg0 st : Nat → Int) (tx t pg wn ro bg : Nat → Int) (htx : txOK tx tl) (hnm : nmM t) (R : Int × MSt) (hR : psM tx tl 200 0 t (clrM (rp, pg, wn, rr, ro, bg)) = R) (hc : R.1 = -4 ∧ 1 ≤ R.2.1) : SP E mX7_lay (d + 6) 0 0 [.ref m] [(m, ob 7 [.int (zz ↑np), .ref mP, .ref mW, .int (zz ↑nr), .ref mR, .ref mB, .ref mS, .int (zz ↑ac), .ref mA, .int (zz ↑ke), .ref mK, .int (zz ↑se), .ref mE, .ref mT, .int (zz ↑tl), .int (zz ↑at_), .ref mD, .int (zz ↑rp), .ref nP, .ref nW, .int (zz ↑rr), .ref nR, .ref nB, .ref mN, .ref mO, .ref mQ, .int (zz dp), .ref mX]), (mT, aI E 200 tx), (mD, aI E 4 t), (nP, aI E 21 pg), (nW, aI E 10 wn), (nR, aI E 12 ro), (nB, aI E 7 bg), (mP, aI E 21 pg0), (mW, aI E 10 wn0), (mR, aI E 12 ro0), (mB, aI E 7 bg0), (mS, aI E 7 st)] (fun v w => v = some (.int (zz ((R.2.1 : Nat) : Int))) ∧ ∃ (a2 : Nat) (t2 : Nat → Int), nmM t2 ∧ w = [(m, ob 7 [.int (zz (↑(R.2.1))), .ref mP, .ref mW, .int (zz (↑(R.2.2.2.2.1))), .ref mR, .ref mB, .ref mS, .int (zz 0), .ref mA, .int (zz 0), .ref mK, .int (zz 0), .ref mE, .ref mT, .int (zz ↑tl), .int (zz ↑a2), .ref mD, .int (zz (↑(R.2.1))), .ref nP, .ref nW, .int (zz (↑(R.2.2.2.2.1))), .ref nR, .ref nB, .ref mN, .ref mO, .ref mQ, .int (zz dp), .ref mX]), (mT, aI E 200 tx), (mD, aI E 4 t2), (nP, aI E 21 R.2.2.1), (nW, aI E 10 R.2.2.2.1), (nR, aI E 12 R.2.2.2.2.2.1), (nB, aI E 7 R.2.2.2.2.2.2), (mP, aI E 21 (cpI pg0 0 R.2.2.1 0 21)), (mW, aI E 10 (cpI wn0 0 R.2.2.2.1 0 10)), (mR, aI E 12 (cpI ro0 0 R.2.2.2.2.2.1 0 12)), (mB, aI E 7 (cpI bg0 0 R.2.2.2.2.2.2 0 7)), (mS, aI E 7 (cpI st 0 (cpI bg0 0 R.2.2.2.2.2.2 0 7) 0 7))]) := by
  show RR E mX7_lay (d + 6) 0 0 0 [(0, .ref m)] [] [(m, ob 7 [.int (zz ↑np), .ref mP, .ref mW, .int (zz ↑nr), .ref mR, .ref mB, .ref mS, .int (zz ↑ac), .ref mA, .int (zz ↑ke), .ref mK, .int (zz ↑se), .ref mE, .ref mT, .int (zz ↑tl), .int (zz ↑at_), .ref mD, .int (zz ↑rp), .ref nP, .ref nW, .int (zz ↑rr), .ref nR, .ref nB, .ref mN, .ref mO, .ref mQ, .int (zz dp), .ref mX]), (mT, aI E 200 tx), (mD, aI E 4 t), (nP, aI E 21 pg), (nW, aI E 10 wn), (nR, aI E 12 ro), (nB, aI E 7 bg), (mP, aI E 21 pg0), (mW, aI E 10 wn0), (mR, aI E 12 ro0), (mB, aI E 7 bg0), (mS, aI E 7 st)] (fun v w => v = some (.int (zz ((R.2.1 : Nat) : Int))) ∧ ∃ (a2 : Nat) (t2 : Nat → Int), nmM t2 ∧ w = [(m, ob 7 [.int (zz (↑(R.2.1))), .ref mP, .ref mW, .int (zz (↑(R.2.2.2.2.1))), .ref mR, .ref mB, .ref mS, .int (zz 0), .ref mA, .int (zz 0), .ref mK, .int (zz 0), .ref mE, .ref mT, .int (zz ↑tl), .int (zz ↑a2), .ref mD, .int (zz (↑(R.2.1))), .ref nP, .ref nW, .int (zz (↑(R.2.2.2.2.1))), .ref nR, .ref nB, .ref mN, .ref mO, .ref mQ, .int (zz dp), .ref mX]), (mT, aI E 200 tx), (mD, aI E 4 t2), (nP, aI E 21 R.2.2.1), (nW, aI E 10 R.2.2.2.1), (nR, aI E 12 R.2.2.2.2.2.1), (nB, aI E 7 R.2.2.2.2.2.2), (mP, aI E 21 (cpI pg0 0 R.2.2.1 0 21)), (mW, aI E 10 (cpI wn0 0 R.2.2.2.1 0 10)), (mR, aI E 12 (cpI ro0 0 R.2.2.2.2.2.1 0 12)), (mB, aI E 7 (cpI bg0 0 R.2.2.2.2.2.2 0 7)), (mS, aI E 7 (cpI st 0 (cpI bg0 0 R.2.2.2.2.2.2 0 7) 0 7))])
  have hb := psM_bd (tx := tx) (len := tl) 200 0 t (clrM (rp, pg, wn, rr, ro, bg)) (clrM_bd _).1 (clrM_bd _).2
  have hg := psM_rg (tx := tx) (len := tl) 200 0 t (clrM (rp, pg, wn, rr, ro, bg)) htx.1
  rw [hR] at hb hg
  obtain ⟨Rv, rp2, pg2, wn2, rr2, ro2, bg2⟩ := R
  dsimp only at hb hg hc
  refine rr_aload_n 0 dX7_lay_0 rfl ?_
  refine rr_call (wr := [(mP, aI E 21 pg0), (mW, aI E 10 wn0), (mR, aI E 12 ro0), (mB, aI E 7 bg0), (mS, aI E 7 st)]) (call_V (q0 := 0) kX7_134 (c_Mfault E (d + 0) m mP mW mR mB mS mA mK mE mT mD nP nW nR nB mN mO mQ mX np nr ac ke se tl at_ rp rr dp tx t pg wn ro bg htx hnm) rfl rfl rfl rfl (by omega) (by decide) (Nat.le_of_ble_eq_true rfl) (Nat.le_of_ble_eq_true rfl) dX7_lay_1) [0, 1, 2, 3, 4, 5, 6] [7, 8, 9, 10, 11] rfl rfl rfl rfl rfl (Nat.zero_le _) (Nat.zero_le _) (fun v w1 hp1 => ?_)
  rw [hR] at hp1
  obtain ⟨rfl, a2, t2, hn2, rfl⟩ := hp1
  refine RR.eq (st2 := [.int (zz Rv)]) (ws2 := [(mP, aI E 21 pg0), (mW, aI E 10 wn0), (mR, aI E 12 ro0), (mB, aI E 7 bg0), (mS, aI E 7 st), (m, ob 7 [.int (zz ↑np), .ref mP, .ref mW, .int (zz ↑nr), .ref mR, .ref mB, .ref mS, .int (zz ↑ac), .ref mA, .int (zz ↑ke), .ref mK, .int (zz ↑se), .ref mE, .ref mT, .int (zz ↑tl), .int (zz ↑a2), .ref mD, .int (zz ↑rp2), .ref nP, .ref nW, .int (zz ↑rr2), .ref nR, .ref nB, .ref mN, .ref mO, .ref mQ, .int (zz dp), .ref mX]), (mT, aI E 200 tx), (mD, aI E 4 t2), (nP, aI E 21 pg2), (nW, aI E 10 wn2), (nR, aI E 12 ro2), (nB, aI E 7 bg2)]) rfl rfl rfl rfl ?_
  refine RR.ws (ws2 := [(m, ob 7 [.int (zz ↑np), .ref mP, .ref mW, .int (zz ↑nr), .ref mR, .ref mB, .ref mS, .int (zz ↑ac), .ref mA, .int (zz ↑ke), .ref mK, .int (zz ↑se), .ref mE, .ref mT, .int (zz ↑tl), .int (zz ↑a2), .ref mD, .int (zz ↑rp2), .ref nP, .ref nW, .int (zz ↑rr2), .ref nR, .ref nB, .ref mN, .ref mO, .ref mQ, .int (zz dp), .ref mX]), (mT, aI E 200 tx), (mD, aI E 4 t2), (nP, aI E 21 pg2), (nW, aI E 10 wn2), (nR, aI E 12 ro2), (nB, aI E 7 bg2), (mP, aI E 21 pg0), (mW, aI E 10 wn0), (mR, aI E 12 ro0), (mB, aI E 7 bg0), (mS, aI E 7 st)]) [5, 6, 7, 8, 9, 10, 11, 0, 1, 2, 3, 4] rfl rfl ?_
  refine rr_bipush dX7_lay_4 (by decide) ?_
  refine rr_icmp_ne 16 dX7_lay_6 (by decide) (by omega) (by omega) (fun c_1 => ?_) (fun c_1 => ?_)
  · skip
    exfalso; omega
  · skip
    refine rr_aload_n 0 dX7_lay_9 rfl ?_
    refine rr_get fX7_78 0 rfl rfl dX7_lay_10 ?_
    refine rr_if_ne 19 dX7_lay_13 (by decide) (by omega) (fun c_2 => ?_) (fun c_2 => ?_)
    · skip
      refine rr_aload_n 0 dX7_lay_19 rfl ?_
      refine rr_callFv (ws2 := [(m, ob 7 [.int (zz ↑rp2), .ref mP, .ref mW, .int (zz ↑rr2), .ref mR, .ref mB, .ref mS, .int (zz 0), .ref mA, .int (zz 0), .ref mK, .int (zz 0), .ref mE, .ref mT, .int (zz ↑tl), .int (zz ↑a2), .ref mD, .int (zz ↑rp2), .ref nP, .ref nW, .int (zz ↑rr2), .ref nR, .ref nB, .ref mN, .ref mO, .ref mQ, .int (zz dp), .ref mX]), (mT, aI E 200 tx), (mD, aI E 4 t2), (nP, aI E 21 pg2), (nW, aI E 10 wn2), (nR, aI E 12 ro2), (nB, aI E 7 bg2), (mP, aI E 21 (cpI pg0 0 pg2 0 21)), (mW, aI E 10 (cpI wn0 0 wn2 0 10)), (mR, aI E 12 (cpI ro0 0 ro2 0 12)), (mB, aI E 7 (cpI bg0 0 bg2 0 7)), (mS, aI E 7 (cpI st 0 (cpI bg0 0 bg2 0 7) 0 7))]) (wr := [(mT, aI E 200 tx), (mD, aI E 4 t2)]) (call_V (q0 := 0) kX7_75 (c_settles E (d + 4) m mP mW mR mB mS mA mK mE mT mD nP nW nR nB mN mO mQ mX np nr ac ke se tl a2 rp2 rr2 dp pg0 wn0 ro0 bg0 st pg2 wn2 ro2 bg2) rfl rfl rfl rfl (by omega) (by decide) (Nat.le_of_ble_eq_true rfl) (Nat.le_of_ble_eq_true rfl) dX7_lay_20) [0, 7, 8, 9, 10, 11, 3, 4, 5, 6] [1, 2] [2, 0, 1, 8, 9, 10, 11, 3, 4, 5, 6, 7] rfl rfl rfl rfl rfl rfl rfl ?_
      refine rr_aload_n 0 dX7_lay_23 rfl ?_
      refine rr_get fX7_85 0 rfl rfl dX7_lay_24 ?_
      exact rr_iret dX7_lay_27 rfl rfl ⟨rfl, a2, t2, hn2, rfl⟩
    · skip
      exfalso; omega
set_option maxRecDepth 100000 in
set_option maxHeartbeats 400000 in
theorem c_Mpeg (E : Ev) (d : Nat) (m mP mW mR mB mS mA mK mE mT mD nP nW nR nB mN mO mQ mX : Nat) (np nr ac ke se tl at_ rp rr : Nat) (dp : Int) (pg wn ro nw st kd lf qt wd rx ry h : Nat → Int) (hP : PL np kd lf qt wd pg wn) (hpc : pOK np kd lf qt wd) (hRo : RoL nr rx ry ro) (hrc : rOK nr rx ry) (hA : AG 7 st (amF h)) (ho : hOK h) (hv : hV np h) (y w : Int) (gy : -2147483648 ≤ y ∧ y < 2147483648) (gw : -2147483648 ≤ w ∧ w < 2147483648) : SP E mX7_peg (d + 2) 0 0 [.ref m, .int (zz y), .int (zz w)] [(m, ob 7 [.int (zz ↑np), .ref mP, .ref mW, .int (zz ↑nr), .ref mR, .ref mB, .ref mS, .int (zz ↑ac), .ref mA, .int (zz ↑ke), .ref mK, .int (zz ↑se), .ref mE, .ref mT, .int (zz ↑tl), .int (zz ↑at_), .ref mD, .int (zz ↑rp), .ref nP, .ref nW, .int (zz ↑rr), .ref nR, .ref nB, .ref mN, .ref mO, .ref mQ, .int (zz dp), .ref mX]), (mP, aI E 21 pg), (mN, aI E 7 nw), (mS, aI E 7 st)] (fun v w1 => v = some (.int (zz (pegA np kd lf qt h y w))) ∧ ∃ nw2 : Nat → Int, w1 = [(m, ob 7 [.int (zz ↑np), .ref mP, .ref mW, .int (zz ↑nr), .ref mR, .ref mB, .ref mS, .int (zz ↑ac), .ref mA, .int (zz ↑ke), .ref mK, .int (zz ↑se), .ref mE, .ref mT, .int (zz ↑tl), .int (zz ↑at_), .ref mD, .int (zz ↑rp), .ref nP, .ref nW, .int (zz ↑rr), .ref nR, .ref nB, .ref mN, .ref mO, .ref mQ, .int (zz dp), .ref mX]), (mP, aI E 21 pg), (mN, aI E 7 nw2), (mS, aI E 7 st)]) := by
  show RR E mX7_peg (d + 2) 0 0 0 [(0, .ref m), (1, .int (zz y)), (2, .int (zz w))] [] [(m, ob 7 [.int (zz ↑np), .ref mP, .ref mW, .int (zz ↑nr), .ref mR, .ref mB, .ref mS, .int (zz ↑ac), .ref mA, .int (zz ↑ke), .ref mK, .int (zz ↑se), .ref mE, .ref mT, .int (zz ↑tl), .int (zz ↑at_), .ref mD, .int (zz ↑rp), .ref nP, .ref nW, .int (zz ↑rr), .ref nR, .ref nB, .ref mN, .ref mO, .ref mQ, .int (zz dp), .ref mX]), (mP, aI E 21 pg), (mN, aI E 7 nw), (mS, aI E 7 st)] (fun v w1 => v = some (.int (zz (pegA np kd lf qt h y w))) ∧ ∃ nw2 : Nat → Int, w1 = [(m, ob 7 [.int (zz ↑np), .ref mP, .ref mW, .int (zz ↑nr), .ref mR, .ref mB, .ref mS, .int (zz ↑ac), .ref mA, .int (zz ↑ke), .ref mK, .int (zz ↑se), .ref mE, .ref mT, .int (zz ↑tl), .int (zz ↑at_), .ref mD, .int (zz ↑rp), .ref nP, .ref nW, .int (zz ↑rr), .ref nR, .ref nB, .ref mN, .ref mO, .ref mQ, .int (zz dp), .ref mX]), (mP, aI E 21 pg), (mN, aI E 7 nw2), (mS, aI E 7 st)])
  have hp := hP.ok hpc
  have hr := hRo.ok hrc
  have hn := hpc.1
  have hr1 := hrc.1
  have hs := hA.ok ho hv
  obtain ⟨o0, o1, o2, o3, o5, o6⟩ := id ho
  obtain ⟨e0, e1, e2, e3, e4, e5, e6⟩ := hA.all
  refine rr_aload_n 0 dX7_peg_0 rfl ?_
  refine rr_iload_n 1 dX7_peg_1 rfl ?_
  refine rr_callFi (ws2 := [(m, ob 7 [.int (zz ↑np), .ref mP, .ref mW, .int (zz ↑nr), .ref mR, .ref mB, .ref mS, .int (zz ↑ac), .ref mA, .int (zz ↑ke), .ref mK, .int (zz ↑se), .ref mE, .ref mT, .int (zz ↑tl), .int (zz ↑at_), .ref mD, .int (zz ↑rp), .ref nP, .ref nW, .int (zz ↑rr), .ref nR, .ref nB, .ref mN, .ref mO, .ref mQ, .int (zz dp), .ref mX]), (mP, aI E 21 pg), (mN, aI E 7 nw), (mS, aI E 7 st)]) (wr := [(mP, aI E 21 pg), (mN, aI E 7 nw), (mS, aI E 7 st)]) (call_V (q0 := 0) kX7_177 (c_MisPeg E (d + 0) m mP mW mR mB mS mA mK mE mT mD nP nW nR nB mN mO mQ mX np nr ac ke se tl at_ rp rr dp y (by omega) (by omega)) rfl rfl rfl rfl (by omega) (by decide) (Nat.le_of_ble_eq_true rfl) (Nat.le_of_ble_eq_true rfl) dX7_peg_2) [0] [1, 2, 3] [3, 0, 1, 2] rfl rfl rfl rfl rfl rfl rfl ?_
  refine rr_if_eqD 17 dX7_peg_5 (by decide) (fun c_1 => ?_) (fun c_1 => ?_)
  · skip
    refine rr_iconst dX7_peg_17 ?_
    exact rr_iret dX7_peg_18 rfl rfl ⟨congrArg (fun z => some (Value.int (zz z))) (by rw [pegA_bad (by omega)]), nw, rfl⟩
  · skip
    refine rr_iload_n 2 dX7_peg_8 rfl ?_
    refine rr_iconst dX7_peg_9 ?_
    refine rr_iconst dX7_peg_10 ?_
    refine rr_callFi (ws2 := [(m, ob 7 [.int (zz ↑np), .ref mP, .ref mW, .int (zz ↑nr), .ref mR, .ref mB, .ref mS, .int (zz ↑ac), .ref mA, .int (zz ↑ke), .ref mK, .int (zz ↑se), .ref mE, .ref mT, .int (zz ↑tl), .int (zz ↑at_), .ref mD, .int (zz ↑rp), .ref nP, .ref nW, .int (zz ↑rr), .ref nR, .ref nB, .ref mN, .ref mO, .ref mQ, .int (zz dp), .ref mX]), (mP, aI E 21 pg), (mN, aI E 7 nw), (mS, aI E 7 st)]) (wr := [(m, ob 7 [.int (zz ↑np), .ref mP, .ref mW, .int (zz ↑nr), .ref mR, .ref mB, .ref mS, .int (zz ↑ac), .ref mA, .int (zz ↑ke), .ref mK, .int (zz ↑se), .ref mE, .ref mT, .int (zz ↑tl), .int (zz ↑at_), .ref mD, .int (zz ↑rp), .ref nP, .ref nW, .int (zz ↑rr), .ref nR, .ref nB, .ref mN, .ref mO, .ref mQ, .int (zz dp), .ref mX]), (mP, aI E 21 pg), (mN, aI E 7 nw), (mS, aI E 7 st)]) (call_S kX7_88 (c_in E (d + 1) w 0 4 (by omega) (by omega) (by omega)) rfl (by omega) (by decide) (Nat.le_of_ble_eq_true rfl) (Nat.le_of_ble_eq_true rfl) dX7_peg_11) [] [0, 1, 2, 3] [0, 1, 2, 3] rfl rfl rfl rfl rfl rfl rfl ?_
    refine rr_if_neD 19 dX7_peg_14 (by decide) (fun c_2 => ?_) (fun c_2 => ?_)
    · skip
      obtain ⟨i, rfl⟩ : ∃ q : Nat, y = (q : Int) := ⟨y.toNat, by omega⟩
      refine rr_aload_n 0 dX7_peg_19 rfl ?_
      refine rr_aload_n 0 dX7_peg_20 rfl ?_
      refine rr_get fX7_22 0 rfl rfl dX7_peg_21 ?_
      have ke_3 : cpI nw 0 st 0 7 0 = st 0 := rfl
      have ke_4 : cpI nw 0 st 0 7 1 = st 1 := rfl
      have ke_5 : cpI nw 0 st 0 7 2 = st 2 := rfl
      have ke_6 : cpI nw 0 st 0 7 3 = st 3 := rfl
      have ke_7 : cpI nw 0 st 0 7 4 = st 4 := rfl
      have ke_8 : cpI nw 0 st 0 7 5 = st 5 := rfl
      have ke_9 : cpI nw 0 st 0 7 6 = st 6 := rfl
      have hA10 : AG 7 (cpI nw 0 st 0 7) (amF h) := cp7 hA
      have ho10 : hOK h := ho
      have hv10 : hV np h := hv
      have hm10 : mOK np (cpI nw 0 st 0 7) := hA10.ok ho10 hv10
      obtain ⟨ea10, eb10, ec10, ed10, ee10, ef10, eg10⟩ := hA10.all
      obtain ⟨na10, nb10, nc10, nd10, nf10, ng10⟩ := id hm10
      refine rr_callFv (ws2 := [(m, ob 7 [.int (zz ↑np), .ref mP, .ref mW, .int (zz ↑nr), .ref mR, .ref mB, .ref mS, .int (zz ↑ac), .ref mA, .int (zz ↑ke), .ref mK, .int (zz ↑se), .ref mE, .ref mT, .int (zz ↑tl), .int (zz ↑at_), .ref mD, .int (zz ↑rp), .ref nP, .ref nW, .int (zz ↑rr), .ref nR, .ref nB, .ref mN, .ref mO, .ref mQ, .int (zz dp), .ref mX]), (mP, aI E 21 pg), (mN, aI E 7 (cpI nw 0 st 0 7)), (mS, aI E 7 st)]) (wr := [(mP, aI E 21 pg)]) (call_V (q0 := 0) kX7_180 (c_from E (d + 0) m mP mW mR mB mS mA mK mE mT mD nP nW nR nB mN mO mQ mX np nr ac ke se tl at_ rp rr dp mS nw st) rfl rfl rfl rfl (by omega) (by decide) (Nat.le_of_ble_eq_true rfl) (Nat.le_of_ble_eq_true rfl) dX7_peg_24) [0, 2, 3] [1] [1, 0, 2, 3] rfl rfl rfl rfl rfl rfl rfl ?_
      refine rr_iload_n 2 dX7_peg_27 rfl ?_
      refine rr_iconst dX7_peg_28 ?_
      refine rr_icmp_ge 45 dX7_peg_29 (by decide) (by omega) (by omega) (fun c_11 => ?_) (fun c_11 => ?_)
      · skip
        refine rr_iload_n 2 dX7_peg_45 rfl ?_
        refine rr_iconst dX7_peg_46 ?_
        refine rr_icmp_ne 61 dX7_peg_47 (by decide) (by omega) (by omega) (fun c_12 => ?_) (fun c_12 => ?_)
        · skip
          refine rr_aload_n 0 dX7_peg_61 rfl ?_
          refine rr_iload_n 1 dX7_peg_62 rfl ?_
          refine rr_callFi (ws2 := [(m, ob 7 [.int (zz ↑np), .ref mP, .ref mW, .int (zz ↑nr), .ref mR, .ref mB, .ref mS, .int (zz ↑ac), .ref mA, .int (zz ↑ke), .ref mK, .int (zz ↑se), .ref mE, .ref mT, .int (zz ↑tl), .int (zz ↑at_), .ref mD, .int (zz ↑rp), .ref nP, .ref nW, .int (zz ↑rr), .ref nR, .ref nB, .ref mN, .ref mO, .ref mQ, .int (zz dp), .ref mX]), (mP, aI E 21 pg), (mN, aI E 7 (cpI nw 0 st 0 7)), (mS, aI E 7 st)]) (wr := [(mS, aI E 7 st)]) (call_V (q0 := 0) kX7_168 (c_MquartersOf E (d + 1) m mP mW mR mB mS mA mK mE mT mD nP nW nR nB mN mO mQ mX np nr ac ke se tl at_ rp rr dp pg wn (cpI nw 0 st 0 7) i hp hm10 (by omega)) rfl rfl rfl rfl (by omega) (by decide) (Nat.le_of_ble_eq_true rfl) (Nat.le_of_ble_eq_true rfl) dX7_peg_63) [0, 1, 2] [3] [1, 2, 3, 0] rfl rfl rfl rfl rfl rfl rfl ?_
          exact rr_iret dX7_peg_66 rfl rfl ⟨congrArg (fun z => some (Value.int (zz z))) (by exact (pegA_4 hP hpc (cp7 hA) (by omega) (by omega)).symm), cpI nw 0 st 0 7, rfl⟩
        · skip
          refine rr_aload_n 0 dX7_peg_50 rfl ?_
          refine rr_iload_n 1 dX7_peg_51 rfl ?_
          refine rr_callFi (ws2 := [(m, ob 7 [.int (zz ↑np), .ref mP, .ref mW, .int (zz ↑nr), .ref mR, .ref mB, .ref mS, .int (zz ↑ac), .ref mA, .int (zz ↑ke), .ref mK, .int (zz ↑se), .ref mE, .ref mT, .int (zz ↑tl), .int (zz ↑at_), .ref mD, .int (zz ↑rp), .ref nP, .ref nW, .int (zz ↑rr), .ref nR, .ref nB, .ref mN, .ref mO, .ref mQ, .int (zz dp), .ref mX]), (mP, aI E 21 pg), (mN, aI E 7 (cpI nw 0 st 0 7)), (mS, aI E 7 st)]) (wr := [(mS, aI E 7 st)]) (call_V (q0 := 0) kX7_171 (c_MliftOf E (d + 0) m mP mW mR mB mS mA mK mE mT mD nP nW nR nB mN mO mQ mX np nr ac ke se tl at_ rp rr dp pg wn (cpI nw 0 st 0 7) i hp hm10 (by omega)) rfl rfl rfl rfl (by omega) (by decide) (Nat.le_of_ble_eq_true rfl) (Nat.le_of_ble_eq_true rfl) dX7_peg_52) [0, 1, 2] [3] [1, 2, 3, 0] rfl rfl rfl rfl rfl rfl rfl ?_
          refine rr_bipush dX7_peg_55 (by decide) ?_
          refine rr_iadd dX7_peg_57 ?_
          refine rr_goto 66 dX7_peg_58 (by decide) ?_
          exact rr_iret dX7_peg_66 rfl rfl ⟨congrArg (fun z => some (Value.int (zz z))) (by exact (pegA_3 hP hv (cp7 hA) (by omega) (by omega)).symm), cpI nw 0 st 0 7, rfl⟩
      · skip
        refine rr_aload_n 0 dX7_peg_32 rfl ?_
        refine rr_get fX7_7 0 rfl rfl dX7_peg_33 ?_
        refine rr_iconst dX7_peg_36 ?_
        refine rr_iload_n 1 dX7_peg_37 rfl ?_
        refine rr_imul dX7_peg_38 ?_
        refine rr_iload_n 2 dX7_peg_39 rfl ?_
        refine rr_iadd dX7_peg_40 ?_
        refine rr_iald 1 (3 * i + w.toNat) rfl (by omega) (by omega) (by omega) dX7_peg_41 ?_
        refine rr_goto 66 dX7_peg_42 (by decide) ?_
        exact rr_iret dX7_peg_66 rfl rfl ⟨congrArg (fun z => some (Value.int (zz z))) (by rw [pegA_lo hP (by omega) (by omega)]), cpI nw 0 st 0 7, rfl⟩
    · skip
      refine rr_iconst dX7_peg_17 ?_
      exact rr_iret dX7_peg_18 rfl rfl ⟨congrArg (fun z => some (Value.int (zz z))) (by rw [pegA_bad (by omega)]), nw, rfl⟩
set_option maxRecDepth 100000 in
set_option maxHeartbeats 400000 in
theorem c_Mwind (E : Ev) (d : Nat) (m mP mW mR mB mS mA mK mE mT mD nP nW nR nB mN mO mQ mX : Nat) (np nr ac ke se tl at_ rp rr : Nat) (dp : Int) (kd lf qt wd pg wn : Nat → Int) (hP : PL np kd lf qt wd pg wn) (y : Int) (gy : -2147483648 ≤ y ∧ y < 2147483648) : SP E mX7_wind (d + 1) 0 0 [.ref m, .int (zz y)] [(m, ob 7 [.int (zz ↑np), .ref mP, .ref mW, .int (zz ↑nr), .ref mR, .ref mB, .ref mS, .int (zz ↑ac), .ref mA, .int (zz ↑ke), .ref mK, .int (zz ↑se), .ref mE, .ref mT, .int (zz ↑tl), .int (zz ↑at_), .ref mD, .int (zz ↑rp), .ref nP, .ref nW, .int (zz ↑rr), .ref nR, .ref nB, .ref mN, .ref mO, .ref mQ, .int (zz dp), .ref mX]), (mW, aI E 10 wn)] (FP (some (.int (zz (windA wd y)))) [(m, ob 7 [.int (zz ↑np), .ref mP, .ref mW, .int (zz ↑nr), .ref mR, .ref mB, .ref mS, .int (zz ↑ac), .ref mA, .int (zz ↑ke), .ref mK, .int (zz ↑se), .ref mE, .ref mT, .int (zz ↑tl), .int (zz ↑at_), .ref mD, .int (zz ↑rp), .ref nP, .ref nW, .int (zz ↑rr), .ref nR, .ref nB, .ref mN, .ref mO, .ref mQ, .int (zz dp), .ref mX]), (mW, aI E 10 wn)]) := by
  show RR E mX7_wind (d + 1) 0 0 0 [(0, .ref m), (1, .int (zz y))] [] [(m, ob 7 [.int (zz ↑np), .ref mP, .ref mW, .int (zz ↑nr), .ref mR, .ref mB, .ref mS, .int (zz ↑ac), .ref mA, .int (zz ↑ke), .ref mK, .int (zz ↑se), .ref mE, .ref mT, .int (zz ↑tl), .int (zz ↑at_), .ref mD, .int (zz ↑rp), .ref nP, .ref nW, .int (zz ↑rr), .ref nR, .ref nB, .ref mN, .ref mO, .ref mQ, .int (zz dp), .ref mX]), (mW, aI E 10 wn)] (FP (some (.int (zz (windA wd y)))) [(m, ob 7 [.int (zz ↑np), .ref mP, .ref mW, .int (zz ↑nr), .ref mR, .ref mB, .ref mS, .int (zz ↑ac), .ref mA, .int (zz ↑ke), .ref mK, .int (zz ↑se), .ref mE, .ref mT, .int (zz ↑tl), .int (zz ↑at_), .ref mD, .int (zz ↑rp), .ref nP, .ref nW, .int (zz ↑rr), .ref nR, .ref nB, .ref mN, .ref mO, .ref mQ, .int (zz dp), .ref mX]), (mW, aI E 10 wn)])
  refine rr_iload_n 1 dX7_wind_0 rfl ?_
  refine rr_iconst dX7_wind_1 ?_
  refine rr_bipush dX7_wind_2 (by decide) ?_
  refine rr_callFi (ws2 := [(m, ob 7 [.int (zz ↑np), .ref mP, .ref mW, .int (zz ↑nr), .ref mR, .ref mB, .ref mS, .int (zz ↑ac), .ref mA, .int (zz ↑ke), .ref mK, .int (zz ↑se), .ref mE, .ref mT, .int (zz ↑tl), .int (zz ↑at_), .ref mD, .int (zz ↑rp), .ref nP, .ref nW, .int (zz ↑rr), .ref nR, .ref nB, .ref mN, .ref mO, .ref mQ, .int (zz dp), .ref mX]), (mW, aI E 10 wn)]) (wr := [(m, ob 7 [.int (zz ↑np), .ref mP, .ref mW, .int (zz ↑nr), .ref mR, .ref mB, .ref mS, .int (zz ↑ac), .ref mA, .int (zz ↑ke), .ref mK, .int (zz ↑se), .ref mE, .ref mT, .int (zz ↑tl), .int (zz ↑at_), .ref mD, .int (zz ↑rp), .ref nP, .ref nW, .int (zz ↑rr), .ref nR, .ref nB, .ref mN, .ref mO, .ref mQ, .int (zz dp), .ref mX]), (mW, aI E 10 wn)]) (call_S kX7_88 (c_in E (d + 0) y 1 9 (by omega) (by omega) (by omega)) rfl (by omega) (by decide) (Nat.le_of_ble_eq_true rfl) (Nat.le_of_ble_eq_true rfl) dX7_wind_4) [] [0, 1] [0, 1] rfl rfl rfl rfl rfl rfl rfl ?_
  refine rr_if_eqD 19 dX7_wind_7 (by decide) (fun c_1 => ?_) (fun c_1 => ?_)
  · skip
    refine rr_iconst dX7_wind_19 ?_
    exact rr_iret dX7_wind_20 rfl rfl ⟨congrArg (fun z => some (Value.int (zz z))) (by unfold windA; first | rw [if_pos (by omega), hP.2 y.toNat (by omega)] | rw [if_neg (by omega)]), rfl⟩
  · skip
    refine rr_aload_n 0 dX7_wind_10 rfl ?_
    refine rr_get fX7_13 0 rfl rfl dX7_wind_11 ?_
    refine rr_iload_n 1 dX7_wind_14 rfl ?_
    refine rr_iald 1 y.toNat rfl (by omega) (by omega) (by omega) dX7_wind_15 ?_
    refine rr_goto 20 dX7_wind_16 (by decide) ?_
    exact rr_iret dX7_wind_20 rfl rfl ⟨congrArg (fun z => some (Value.int (zz z))) (by unfold windA; first | rw [if_pos (by omega), hP.2 y.toNat (by omega)] | rw [if_neg (by omega)]), rfl⟩
set_option maxRecDepth 100000 in
set_option maxHeartbeats 400000 in
theorem c_Mroof (E : Ev) (d : Nat) (m mP mW mR mB mS mA mK mE mT mD nP nW nR nB mN mO mQ mX : Nat) (np nr ac ke se tl at_ rp rr : Nat) (dp : Int) (rx ry ro : Nat → Int) (hRo : RoL nr rx ry ro) (hn : nr ≤ 6) (y w : Int) (gy : -2147483648 ≤ y ∧ y < 2147483648) (gw : -2147483648 ≤ w ∧ w < 2147483648) : SP E mX7_roof (d + 2) 0 0 [.ref m, .int (zz y), .int (zz w)] [(m, ob 7 [.int (zz ↑np), .ref mP, .ref mW, .int (zz ↑nr), .ref mR, .ref mB, .ref mS, .int (zz ↑ac), .ref mA, .int (zz ↑ke), .ref mK, .int (zz ↑se), .ref mE, .ref mT, .int (zz ↑tl), .int (zz ↑at_), .ref mD, .int (zz ↑rp), .ref nP, .ref nW, .int (zz ↑rr), .ref nR, .ref nB, .ref mN, .ref mO, .ref mQ, .int (zz dp), .ref mX]), (mR, aI E 12 ro)] (FP (some (.int (zz (roofA nr rx ry y w)))) [(m, ob 7 [.int (zz ↑np), .ref mP, .ref mW, .int (zz ↑nr), .ref mR, .ref mB, .ref mS, .int (zz ↑ac), .ref mA, .int (zz ↑ke), .ref mK, .int (zz ↑se), .ref mE, .ref mT, .int (zz ↑tl), .int (zz ↑at_), .ref mD, .int (zz ↑rp), .ref nP, .ref nW, .int (zz ↑rr), .ref nR, .ref nB, .ref mN, .ref mO, .ref mQ, .int (zz dp), .ref mX]), (mR, aI E 12 ro)]) := by
  show RR E mX7_roof (d + 2) 0 0 0 [(0, .ref m), (1, .int (zz y)), (2, .int (zz w))] [] [(m, ob 7 [.int (zz ↑np), .ref mP, .ref mW, .int (zz ↑nr), .ref mR, .ref mB, .ref mS, .int (zz ↑ac), .ref mA, .int (zz ↑ke), .ref mK, .int (zz ↑se), .ref mE, .ref mT, .int (zz ↑tl), .int (zz ↑at_), .ref mD, .int (zz ↑rp), .ref nP, .ref nW, .int (zz ↑rr), .ref nR, .ref nB, .ref mN, .ref mO, .ref mQ, .int (zz dp), .ref mX]), (mR, aI E 12 ro)] (FP (some (.int (zz (roofA nr rx ry y w)))) [(m, ob 7 [.int (zz ↑np), .ref mP, .ref mW, .int (zz ↑nr), .ref mR, .ref mB, .ref mS, .int (zz ↑ac), .ref mA, .int (zz ↑ke), .ref mK, .int (zz ↑se), .ref mE, .ref mT, .int (zz ↑tl), .int (zz ↑at_), .ref mD, .int (zz ↑rp), .ref nP, .ref nW, .int (zz ↑rr), .ref nR, .ref nB, .ref mN, .ref mO, .ref mQ, .int (zz dp), .ref mX]), (mR, aI E 12 ro)])
  refine rr_aload_n 0 dX7_roof_0 rfl ?_
  refine rr_iload_n 1 dX7_roof_1 rfl ?_
  refine rr_callFi (ws2 := [(m, ob 7 [.int (zz ↑np), .ref mP, .ref mW, .int (zz ↑nr), .ref mR, .ref mB, .ref mS, .int (zz ↑ac), .ref mA, .int (zz ↑ke), .ref mK, .int (zz ↑se), .ref mE, .ref mT, .int (zz ↑tl), .int (zz ↑at_), .ref mD, .int (zz ↑rp), .ref nP, .ref nW, .int (zz ↑rr), .ref nR, .ref nB, .ref mN, .ref mO, .ref mQ, .int (zz dp), .ref mX]), (mR, aI E 12 ro)]) (wr := [(mR, aI E 12 ro)]) (call_V (q0 := 0) kX7_184 (c_MisRoof E (d + 0) m mP mW mR mB mS mA mK mE mT mD nP nW nR nB mN mO mQ mX np nr ac ke se tl at_ rp rr dp y (by omega) (by omega)) rfl rfl rfl rfl (by omega) (by decide) (Nat.le_of_ble_eq_true rfl) (Nat.le_of_ble_eq_true rfl) dX7_roof_2) [0] [1] [1, 0] rfl rfl rfl rfl rfl rfl rfl ?_
  refine rr_if_eqD 30 dX7_roof_5 (by decide) (fun c_1 => ?_) (fun c_1 => ?_)
  · skip
    refine rr_iconst dX7_roof_30 ?_
    exact rr_iret dX7_roof_31 rfl rfl ⟨congrArg (fun z => some (Value.int (zz z))) (by unfold roofA; rw [if_neg (by omega)]), rfl⟩
  · skip
    refine rr_iload_n 2 dX7_roof_8 rfl ?_
    refine rr_iconst dX7_roof_9 ?_
    refine rr_iconst dX7_roof_10 ?_
    refine rr_callFi (ws2 := [(m, ob 7 [.int (zz ↑np), .ref mP, .ref mW, .int (zz ↑nr), .ref mR, .ref mB, .ref mS, .int (zz ↑ac), .ref mA, .int (zz ↑ke), .ref mK, .int (zz ↑se), .ref mE, .ref mT, .int (zz ↑tl), .int (zz ↑at_), .ref mD, .int (zz ↑rp), .ref nP, .ref nW, .int (zz ↑rr), .ref nR, .ref nB, .ref mN, .ref mO, .ref mQ, .int (zz dp), .ref mX]), (mR, aI E 12 ro)]) (wr := [(m, ob 7 [.int (zz ↑np), .ref mP, .ref mW, .int (zz ↑nr), .ref mR, .ref mB, .ref mS, .int (zz ↑ac), .ref mA, .int (zz ↑ke), .ref mK, .int (zz ↑se), .ref mE, .ref mT, .int (zz ↑tl), .int (zz ↑at_), .ref mD, .int (zz ↑rp), .ref nP, .ref nW, .int (zz ↑rr), .ref nR, .ref nB, .ref mN, .ref mO, .ref mQ, .int (zz dp), .ref mX]), (mR, aI E 12 ro)]) (call_S kX7_88 (c_in E (d + 1) w 0 1 (by omega) (by omega) (by omega)) rfl (by omega) (by decide) (Nat.le_of_ble_eq_true rfl) (Nat.le_of_ble_eq_true rfl) dX7_roof_11) [] [0, 1] [0, 1] rfl rfl rfl rfl rfl rfl rfl ?_
    refine rr_if_eqD 30 dX7_roof_14 (by decide) (fun c_2 => ?_) (fun c_2 => ?_)
    · skip
      refine rr_iconst dX7_roof_30 ?_
      exact rr_iret dX7_roof_31 rfl rfl ⟨congrArg (fun z => some (Value.int (zz z))) (by unfold roofA; rw [if_neg (by omega)]), rfl⟩
    · skip
      refine rr_aload_n 0 dX7_roof_17 rfl ?_
      refine rr_get fX7_16 0 rfl rfl dX7_roof_18 ?_
      refine rr_iconst dX7_roof_21 ?_
      refine rr_iload_n 1 dX7_roof_22 rfl ?_
      refine rr_imul dX7_roof_23 ?_
      refine rr_iload_n 2 dX7_roof_24 rfl ?_
      refine rr_iadd dX7_roof_25 ?_
      refine rr_iald 1 (2 * y.toNat + w.toNat) rfl (by omega) (by omega) (by omega) dX7_roof_26 ?_
      refine rr_goto 31 dX7_roof_27 (by decide) ?_
      exact rr_iret dX7_roof_31 rfl rfl ⟨congrArg (fun z => some (Value.int (zz z))) (by unfold roofA; rw [if_pos (by omega)]; obtain ⟨q1, q2⟩ := hRo y.toNat (by omega); rcases (by omega : w = 0 ∨ w = 1) with e | e <;> subst e; exact q1; exact q2), rfl⟩
set_option maxRecDepth 100000 in
set_option maxHeartbeats 400000 in
theorem c_rem_y (E : Ev) (d : Nat) (m mP mW mR mB mS mA mK mE mT mD nP nW nR nB mN mO mQ mX : Nat) (np nr ac ke se tl at_ rp rr : Nat) (dp : Int) (was st : Nat → Int) (hc : ac < 8) : SP E mX7_remembers (d + 1) 0 0 [.ref m] [(m, ob 7 [.int (zz ↑np), .ref mP, .ref mW, .int (zz ↑nr), .ref mR, .ref mB, .ref mS, .int (zz ↑ac), .ref mA, .int (zz ↑ke), .ref mK, .int (zz ↑se), .ref mE, .ref mT, .int (zz ↑tl), .int (zz ↑at_), .ref mD, .int (zz ↑rp), .ref nP, .ref nW, .int (zz ↑rr), .ref nR, .ref nB, .ref mN, .ref mO, .ref mQ, .int (zz dp), .ref mX]), (mA, aI E 56 was), (mS, aI E 7 st)] (FP none [(m, ob 7 [.int (zz ↑np), .ref mP, .ref mW, .int (zz ↑nr), .ref mR, .ref mB, .ref mS, .int (zz (↑(ac + 1))), .ref mA, .int (zz ↑ke), .ref mK, .int (zz ↑se), .ref mE, .ref mT, .int (zz ↑tl), .int (zz ↑at_), .ref mD, .int (zz ↑rp), .ref nP, .ref nW, .int (zz ↑rr), .ref nR, .ref nB, .ref mN, .ref mO, .ref mQ, .int (zz dp), .ref mX]), (mA, aI E 56 (cpI was (7 * ac) st 0 7)), (mS, aI E 7 st)]) := by
  show RR E mX7_remembers (d + 1) 0 0 0 [(0, .ref m)] [] [(m, ob 7 [.int (zz ↑np), .ref mP, .ref mW, .int (zz ↑nr), .ref mR, .ref mB, .ref mS, .int (zz ↑ac), .ref mA, .int (zz ↑ke), .ref mK, .int (zz ↑se), .ref mE, .ref mT, .int (zz ↑tl), .int (zz ↑at_), .ref mD, .int (zz ↑rp), .ref nP, .ref nW, .int (zz ↑rr), .ref nR, .ref nB, .ref mN, .ref mO, .ref mQ, .int (zz dp), .ref mX]), (mA, aI E 56 was), (mS, aI E 7 st)] (FP none [(m, ob 7 [.int (zz ↑np), .ref mP, .ref mW, .int (zz ↑nr), .ref mR, .ref mB, .ref mS, .int (zz (↑(ac + 1))), .ref mA, .int (zz ↑ke), .ref mK, .int (zz ↑se), .ref mE, .ref mT, .int (zz ↑tl), .int (zz ↑at_), .ref mD, .int (zz ↑rp), .ref nP, .ref nW, .int (zz ↑rr), .ref nR, .ref nB, .ref mN, .ref mO, .ref mQ, .int (zz dp), .ref mX]), (mA, aI E 56 (cpI was (7 * ac) st 0 7)), (mS, aI E 7 st)])
  refine rr_aload_n 0 dX7_remembers_0 rfl ?_
  refine rr_get fX7_142 0 rfl rfl dX7_remembers_1 ?_
  refine rr_bipush dX7_remembers_4 (by decide) ?_
  refine rr_icmp_ne 48 dX7_remembers_6 (by decide) (by omega) (by omega) (fun c_1 => ?_) (fun c_1 => ?_)
  · skip
    refine rr_aload_n 0 dX7_remembers_48 rfl ?_
    refine rr_get fX7_25 0 rfl rfl dX7_remembers_49 ?_
    refine rr_bipush dX7_remembers_52 (by decide) ?_
    refine rr_aload_n 0 dX7_remembers_54 rfl ?_
    refine rr_get fX7_142 0 rfl rfl dX7_remembers_55 ?_
    refine rr_imul dX7_remembers_58 ?_
    refine rr_top (b := ↑(7 * ac)) (by omega) ?_
    refine rr_aload_n 0 dX7_remembers_59 rfl ?_
    refine rr_get fX7_22 0 rfl rfl dX7_remembers_60 ?_
    refine rr_iconst dX7_remembers_63 ?_
    refine rr_bipush dX7_remembers_64 (by decide) ?_
    refine rr_callFv (ws2 := [(m, ob 7 [.int (zz ↑np), .ref mP, .ref mW, .int (zz ↑nr), .ref mR, .ref mB, .ref mS, .int (zz ↑ac), .ref mA, .int (zz ↑ke), .ref mK, .int (zz ↑se), .ref mE, .ref mT, .int (zz ↑tl), .int (zz ↑at_), .ref mD, .int (zz ↑rp), .ref nP, .ref nW, .int (zz ↑rr), .ref nR, .ref nB, .ref mN, .ref mO, .ref mQ, .int (zz dp), .ref mX]), (mA, aI E 56 (cpI was (7 * ac) st 0 7)), (mS, aI E 7 st)]) (wr := [(m, ob 7 [.int (zz ↑np), .ref mP, .ref mW, .int (zz ↑nr), .ref mR, .ref mB, .ref mS, .int (zz ↑ac), .ref mA, .int (zz ↑ke), .ref mK, .int (zz ↑se), .ref mE, .ref mT, .int (zz ↑tl), .int (zz ↑at_), .ref mD, .int (zz ↑rp), .ref nP, .ref nW, .int (zz ↑rr), .ref nR, .ref nB, .ref mN, .ref mO, .ref mQ, .int (zz dp), .ref mX])]) (call_S kX7_138 (c_copies E (d + 0) mA mS 56 7 (7 * ac) 0 7 was st (by omega) (by omega) (by omega) (by omega)) rfl (by omega) (by decide) (Nat.le_of_ble_eq_true rfl) (Nat.le_of_ble_eq_true rfl) dX7_remembers_66) [1, 2] [0] [0, 1, 2] rfl rfl rfl rfl rfl rfl rfl ?_
    refine rr_aload_n 0 dX7_remembers_69 rfl ?_
    refine rr_dup dX7_remembers_70 rfl ?_
    refine rr_get fX7_142 0 rfl rfl dX7_remembers_71 ?_
    refine rr_iconst dX7_remembers_74 ?_
    refine rr_iadd dX7_remembers_75 ?_
    refine rr_put (ws2 := [(m, ob 7 [.int (zz ↑np), .ref mP, .ref mW, .int (zz ↑nr), .ref mR, .ref mB, .ref mS, .int (zz (↑(ac + 1))), .ref mA, .int (zz ↑ke), .ref mK, .int (zz ↑se), .ref mE, .ref mT, .int (zz ↑tl), .int (zz ↑at_), .ref mD, .int (zz ↑rp), .ref nP, .ref nW, .int (zz ↑rr), .ref nR, .ref nB, .ref mN, .ref mO, .ref mQ, .int (zz dp), .ref mX]), (mA, aI E 56 (cpI was (7 * ac) st 0 7)), (mS, aI E 7 st)]) fX7_142 0 rfl rfl rfl (Nat.le_of_ble_eq_true rfl) rfl dX7_remembers_76 ?_
    exact rr_ret dX7_remembers_79 rfl ⟨rfl, rfl⟩
  · skip
    exfalso; omega
set_option maxRecDepth 100000 in
set_option maxHeartbeats 400000 in
theorem c_rem_f (E : Ev) (d : Nat) (m mP mW mR mB mS mA mK mE mT mD nP nW nR nB mN mO mQ mX : Nat) (np nr ac ke se tl at_ rp rr : Nat) (dp : Int) (was st : Nat → Int) : SP E mX7_remembers (d + 1) 0 0 [.ref m] [(m, ob 7 [.int (zz ↑np), .ref mP, .ref mW, .int (zz ↑nr), .ref mR, .ref mB, .ref mS, .int (zz 8), .ref mA, .int (zz ↑ke), .ref mK, .int (zz ↑se), .ref mE, .ref mT, .int (zz ↑tl), .int (zz ↑at_), .ref mD, .int (zz ↑rp), .ref nP, .ref nW, .int (zz ↑rr), .ref nR, .ref nB, .ref mN, .ref mO, .ref mQ, .int (zz dp), .ref mX]), (mA, aI E 56 was), (mS, aI E 7 st)] (FP none [(m, ob 7 [.int (zz ↑np), .ref mP, .ref mW, .int (zz ↑nr), .ref mR, .ref mB, .ref mS, .int (zz 8), .ref mA, .int (zz ↑ke), .ref mK, .int (zz ↑se), .ref mE, .ref mT, .int (zz ↑tl), .int (zz ↑at_), .ref mD, .int (zz ↑rp), .ref nP, .ref nW, .int (zz ↑rr), .ref nR, .ref nB, .ref mN, .ref mO, .ref mQ, .int (zz dp), .ref mX]), (mA, aI E 56 (cpI (cpI was 0 was 7 49) 49 st 0 7)), (mS, aI E 7 st)]) := by
  show RR E mX7_remembers (d + 1) 0 0 0 [(0, .ref m)] [] [(m, ob 7 [.int (zz ↑np), .ref mP, .ref mW, .int (zz ↑nr), .ref mR, .ref mB, .ref mS, .int (zz 8), .ref mA, .int (zz ↑ke), .ref mK, .int (zz ↑se), .ref mE, .ref mT, .int (zz ↑tl), .int (zz ↑at_), .ref mD, .int (zz ↑rp), .ref nP, .ref nW, .int (zz ↑rr), .ref nR, .ref nB, .ref mN, .ref mO, .ref mQ, .int (zz dp), .ref mX]), (mA, aI E 56 was), (mS, aI E 7 st)] (FP none [(m, ob 7 [.int (zz ↑np), .ref mP, .ref mW, .int (zz ↑nr), .ref mR, .ref mB, .ref mS, .int (zz 8), .ref mA, .int (zz ↑ke), .ref mK, .int (zz ↑se), .ref mE, .ref mT, .int (zz ↑tl), .int (zz ↑at_), .ref mD, .int (zz ↑rp), .ref nP, .ref nW, .int (zz ↑rr), .ref nR, .ref nB, .ref mN, .ref mO, .ref mQ, .int (zz dp), .ref mX]), (mA, aI E 56 (cpI (cpI was 0 was 7 49) 49 st 0 7)), (mS, aI E 7 st)])
  have lp : ∀ (n i : Nat), i + n = 49 → RR E mX7_remembers (d + 1) 0 0 11 [(0, .ref m), (1, .int (zz ↑i))] [] [(m, ob 7 [.int (zz ↑np), .ref mP, .ref mW, .int (zz ↑nr), .ref mR, .ref mB, .ref mS, .int (zz 8), .ref mA, .int (zz ↑ke), .ref mK, .int (zz ↑se), .ref mE, .ref mT, .int (zz ↑tl), .int (zz ↑at_), .ref mD, .int (zz ↑rp), .ref nP, .ref nW, .int (zz ↑rr), .ref nR, .ref nB, .ref mN, .ref mO, .ref mQ, .int (zz dp), .ref mX]), (mA, aI E 56 (cpI was 0 was 7 i)), (mS, aI E 7 st)] (FP none [(m, ob 7 [.int (zz ↑np), .ref mP, .ref mW, .int (zz ↑nr), .ref mR, .ref mB, .ref mS, .int (zz 8), .ref mA, .int (zz ↑ke), .ref mK, .int (zz ↑se), .ref mE, .ref mT, .int (zz ↑tl), .int (zz ↑at_), .ref mD, .int (zz ↑rp), .ref nP, .ref nW, .int (zz ↑rr), .ref nR, .ref nB, .ref mN, .ref mO, .ref mQ, .int (zz dp), .ref mX]), (mA, aI E 56 (cpI (cpI was 0 was 7 49) 49 st 0 7)), (mS, aI E 7 st)]) := by
    intro n
    induction n with
    | zero =>
      intro i h1
      obtain rfl : i = 49 := by omega
      refine rr_iload_n 1 dX7_remembers_11 rfl ?_
      refine rr_bipush dX7_remembers_12 (by decide) ?_
      refine rr_icmp_ge 38 dX7_remembers_14 (by decide) (by omega) (by omega) (fun c_1 => ?_) (fun c_1 => ?_)
      · skip
        refine rr_aload_n 0 dX7_remembers_38 rfl ?_
        refine rr_dup dX7_remembers_39 rfl ?_
        refine rr_get fX7_142 0 rfl rfl dX7_remembers_40 ?_
        refine rr_iconst dX7_remembers_43 ?_
        refine rr_isub dX7_remembers_44 ?_
        refine rr_top (b := 7) (by decide) ?_
        refine rr_put (ws2 := [(m, ob 7 [.int (zz ↑np), .ref mP, .ref mW, .int (zz ↑nr), .ref mR, .ref mB, .ref mS, .int (zz 7), .ref mA, .int (zz ↑ke), .ref mK, .int (zz ↑se), .ref mE, .ref mT, .int (zz ↑tl), .int (zz ↑at_), .ref mD, .int (zz ↑rp), .ref nP, .ref nW, .int (zz ↑rr), .ref nR, .ref nB, .ref mN, .ref mO, .ref mQ, .int (zz dp), .ref mX]), (mA, aI E 56 (cpI was 0 was 7 49)), (mS, aI E 7 st)]) fX7_142 0 rfl rfl rfl (Nat.le_of_ble_eq_true rfl) rfl dX7_remembers_45 ?_
        refine rr_aload_n 0 dX7_remembers_48 rfl ?_
        refine rr_get fX7_25 0 rfl rfl dX7_remembers_49 ?_
        refine rr_bipush dX7_remembers_52 (by decide) ?_
        refine rr_aload_n 0 dX7_remembers_54 rfl ?_
        refine rr_get fX7_142 0 rfl rfl dX7_remembers_55 ?_
        refine rr_imul dX7_remembers_58 ?_
        refine rr_top (b := 49) (by decide) ?_
        refine rr_aload_n 0 dX7_remembers_59 rfl ?_
        refine rr_get fX7_22 0 rfl rfl dX7_remembers_60 ?_
        refine rr_iconst dX7_remembers_63 ?_
        refine rr_bipush dX7_remembers_64 (by decide) ?_
        refine rr_callFv (ws2 := [(m, ob 7 [.int (zz ↑np), .ref mP, .ref mW, .int (zz ↑nr), .ref mR, .ref mB, .ref mS, .int (zz 7), .ref mA, .int (zz ↑ke), .ref mK, .int (zz ↑se), .ref mE, .ref mT, .int (zz ↑tl), .int (zz ↑at_), .ref mD, .int (zz ↑rp), .ref nP, .ref nW, .int (zz ↑rr), .ref nR, .ref nB, .ref mN, .ref mO, .ref mQ, .int (zz dp), .ref mX]), (mA, aI E 56 (cpI (cpI was 0 was 7 49) 49 st 0 7)), (mS, aI E 7 st)]) (wr := [(m, ob 7 [.int (zz ↑np), .ref mP, .ref mW, .int (zz ↑nr), .ref mR, .ref mB, .ref mS, .int (zz 7), .ref mA, .int (zz ↑ke), .ref mK, .int (zz ↑se), .ref mE, .ref mT, .int (zz ↑tl), .int (zz ↑at_), .ref mD, .int (zz ↑rp), .ref nP, .ref nW, .int (zz ↑rr), .ref nR, .ref nB, .ref mN, .ref mO, .ref mQ, .int (zz dp), .ref mX])]) (call_S kX7_138 (c_copies E (d + 0) mA mS 56 7 49 0 7 (cpI was 0 was 7 49) st (by omega) (by omega) (by omega) (by omega)) rfl (by omega) (by decide) (Nat.le_of_ble_eq_true rfl) (Nat.le_of_ble_eq_true rfl) dX7_remembers_66) [1, 2] [0] [0, 1, 2] rfl rfl rfl rfl rfl rfl rfl ?_
        refine rr_aload_n 0 dX7_remembers_69 rfl ?_
        refine rr_dup dX7_remembers_70 rfl ?_
        refine rr_get fX7_142 0 rfl rfl dX7_remembers_71 ?_
        refine rr_iconst dX7_remembers_74 ?_
        refine rr_iadd dX7_remembers_75 ?_
        refine rr_top (b := 8) (by decide) ?_
        refine rr_put (ws2 := [(m, ob 7 [.int (zz ↑np), .ref mP, .ref mW, .int (zz ↑nr), .ref mR, .ref mB, .ref mS, .int (zz 8), .ref mA, .int (zz ↑ke), .ref mK, .int (zz ↑se), .ref mE, .ref mT, .int (zz ↑tl), .int (zz ↑at_), .ref mD, .int (zz ↑rp), .ref nP, .ref nW, .int (zz ↑rr), .ref nR, .ref nB, .ref mN, .ref mO, .ref mQ, .int (zz dp), .ref mX]), (mA, aI E 56 (cpI (cpI was 0 was 7 49) 49 st 0 7)), (mS, aI E 7 st)]) fX7_142 0 rfl rfl rfl (Nat.le_of_ble_eq_true rfl) rfl dX7_remembers_76 ?_
        exact rr_ret dX7_remembers_79 rfl ⟨rfl, rfl⟩
      · skip
        exfalso; omega
    | succ n ih =>
      intro i h1
      have er : cpI was 0 was 7 i (i + 7) = was (7 + i) := by unfold cpI; rw [if_neg (by omega), Nat.add_comm]
      refine rr_iload_n 1 dX7_remembers_11 rfl ?_
      refine rr_bipush dX7_remembers_12 (by decide) ?_
      refine rr_icmp_ge 38 dX7_remembers_14 (by decide) (by omega) (by omega) (fun c_2 => ?_) (fun c_2 => ?_)
      · skip
        exfalso; omega
      · skip
        refine rr_aload_n 0 dX7_remembers_17 rfl ?_
        refine rr_get fX7_25 0 rfl rfl dX7_remembers_18 ?_
        refine rr_iload_n 1 dX7_remembers_21 rfl ?_
        refine rr_aload_n 0 dX7_remembers_22 rfl ?_
        refine rr_get fX7_25 0 rfl rfl dX7_remembers_23 ?_
        refine rr_iload_n 1 dX7_remembers_26 rfl ?_
        refine rr_bipush dX7_remembers_27 (by decide) ?_
        refine rr_iadd dX7_remembers_29 ?_
        refine rr_iald 1 (i + 7) rfl (by omega) (by omega) (by omega) dX7_remembers_30 ?_
        refine rr_iast (ws2 := [(m, ob 7 [.int (zz ↑np), .ref mP, .ref mW, .int (zz ↑nr), .ref mR, .ref mB, .ref mS, .int (zz 8), .ref mA, .int (zz ↑ke), .ref mK, .int (zz ↑se), .ref mE, .ref mT, .int (zz ↑tl), .int (zz ↑at_), .ref mD, .int (zz ↑rp), .ref nP, .ref nW, .int (zz ↑rr), .ref nR, .ref nB, .ref mN, .ref mO, .ref mQ, .int (zz dp), .ref mX]), (mA, aI E 56 (updI (cpI was 0 was 7 i) i ((cpI was 0 was 7 i) (i + 7)))), (mS, aI E 7 st)]) 1 i rfl rfl (by omega) (by omega) rfl dX7_remembers_31 ?_
        refine rr_iinc (lv2 := [(0, .ref m), (1, .int (zz (↑(i + 1))))]) 1 dX7_remembers_32 rfl (by decide) rfl ?_
        refine rr_goto 11 dX7_remembers_35 (by decide) ?_
        refine RR.eq (ws2 := [(m, ob 7 [.int (zz ↑np), .ref mP, .ref mW, .int (zz ↑nr), .ref mR, .ref mB, .ref mS, .int (zz 8), .ref mA, .int (zz ↑ke), .ref mK, .int (zz ↑se), .ref mE, .ref mT, .int (zz ↑tl), .int (zz ↑at_), .ref mD, .int (zz ↑rp), .ref nP, .ref nW, .int (zz ↑rr), .ref nR, .ref nB, .ref mN, .ref mO, .ref mQ, .int (zz dp), .ref mX]), (mA, aI E 56 (cpI was 0 was 7 (i + 1))), (mS, aI E 7 st)]) rfl rfl rfl (by rw [← cpI_s was 0 was 7 i, er, Nat.zero_add]) ?_
        exact ih (i + 1) (by omega)
  refine rr_aload_n 0 dX7_remembers_0 rfl ?_
  refine rr_get fX7_142 0 rfl rfl dX7_remembers_1 ?_
  refine rr_bipush dX7_remembers_4 (by decide) ?_
  refine rr_icmp_ne 48 dX7_remembers_6 (by decide) (by omega) (by omega) (fun c_3 => ?_) (fun c_3 => ?_)
  · skip
    exfalso; omega
  · skip
    refine rr_iconst dX7_remembers_9 ?_
    refine rr_istore_n (lv2 := [(0, .ref m), (1, .int (zz 0))]) dX7_remembers_10 (by decide) rfl ?_
    refine RR.eq (ws2 := [(m, ob 7 [.int (zz ↑np), .ref mP, .ref mW, .int (zz ↑nr), .ref mR, .ref mB, .ref mS, .int (zz 8), .ref mA, .int (zz ↑ke), .ref mK, .int (zz ↑se), .ref mE, .ref mT, .int (zz ↑tl), .int (zz ↑at_), .ref mD, .int (zz ↑rp), .ref nP, .ref nW, .int (zz ↑rr), .ref nR, .ref nB, .ref mN, .ref mO, .ref mQ, .int (zz dp), .ref mX]), (mA, aI E 56 (cpI was 0 was 7 0)), (mS, aI E 7 st)]) rfl rfl rfl (by rw [cpI_0]) ?_
    exact lp 49 0 (by omega)
theorem c_remembers (E : Ev) (d : Nat) (m mP mW mR mB mS mA mK mE mT mD nP nW nR nB mN mO mQ mX : Nat) (np nr ac ke se tl at_ rp rr : Nat) (dp : Int) (was st : Nat → Int) (hc : ac ≤ 8) : SP E mX7_remembers (d + 1) 0 0 [.ref m] [(m, ob 7 [.int (zz ↑np), .ref mP, .ref mW, .int (zz ↑nr), .ref mR, .ref mB, .ref mS, .int (zz ↑ac), .ref mA, .int (zz ↑ke), .ref mK, .int (zz ↑se), .ref mE, .ref mT, .int (zz ↑tl), .int (zz ↑at_), .ref mD, .int (zz ↑rp), .ref nP, .ref nW, .int (zz ↑rr), .ref nR, .ref nB, .ref mN, .ref mO, .ref mQ, .int (zz dp), .ref mX]), (mA, aI E 56 was), (mS, aI E 7 st)] (FP none [(m, ob 7 [.int (zz ↑np), .ref mP, .ref mW, .int (zz ↑nr), .ref mR, .ref mB, .ref mS, .int (zz (↑(putN ac))), .ref mA, .int (zz ↑ke), .ref mK, .int (zz ↑se), .ref mE, .ref mT, .int (zz ↑tl), .int (zz ↑at_), .ref mD, .int (zz ↑rp), .ref nP, .ref nW, .int (zz ↑rr), .ref nR, .ref nB, .ref mN, .ref mO, .ref mQ, .int (zz dp), .ref mX]), (mA, aI E 56 (rmM was ac st)), (mS, aI E 7 st)]) := by
  by_cases e : ac < 8
  · have h := c_rem_y E d m mP mW mR mB mS mA mK mE mT mD nP nW nR nB mN mO mQ mX np nr ac ke se tl at_ rp rr dp was st e
    unfold rmM putN
    rw [if_pos e, if_pos e]
    exact h
  · obtain rfl : ac = 8 := by omega
    have h := c_rem_f E d m mP mW mR mB mS mA mK mE mT mD nP nW nR nB mN mO mQ mX np nr 8 ke se tl at_ rp rr dp was st
    unfold rmM putN
    rw [if_neg e, if_neg e]
    exact h
set_option maxRecDepth 100000 in
set_option maxHeartbeats 400000 in
theorem c_Mturn_bad (E : Ev) (d : Nat) (m mP mW mR mB mS mA mK mE mT mD nP nW nR nB mN mO mQ mX : Nat) (np nr ac ke se tl at_ rp rr : Nat) (dp : Int) (y : Int) (gy : -2147483648 ≤ y ∧ y < 2147483648) (hn : np ≤ 7) (hy : ¬ (0 ≤ y ∧ y < (np : Int))) : SP E mX7_turn (d + 4) 0 0 [.ref m, .int (zz y)] [(m, ob 7 [.int (zz ↑np), .ref mP, .ref mW, .int (zz ↑nr), .ref mR, .ref mB, .ref mS, .int (zz ↑ac), .ref mA, .int (zz ↑ke), .ref mK, .int (zz ↑se), .ref mE, .ref mT, .int (zz ↑tl), .int (zz ↑at_), .ref mD, .int (zz ↑rp), .ref nP, .ref nW, .int (zz ↑rr), .ref nR, .ref nB, .ref mN, .ref mO, .ref mQ, .int (zz dp), .ref mX])] (FP (some (.int (zz (-1)))) [(m, ob 7 [.int (zz ↑np), .ref mP, .ref mW, .int (zz ↑nr), .ref mR, .ref mB, .ref mS, .int (zz ↑ac), .ref mA, .int (zz ↑ke), .ref mK, .int (zz ↑se), .ref mE, .ref mT, .int (zz ↑tl), .int (zz ↑at_), .ref mD, .int (zz ↑rp), .ref nP, .ref nW, .int (zz ↑rr), .ref nR, .ref nB, .ref mN, .ref mO, .ref mQ, .int (zz dp), .ref mX])]) := by
  show RR E mX7_turn (d + 4) 0 0 0 [(0, .ref m), (1, .int (zz y))] [] [(m, ob 7 [.int (zz ↑np), .ref mP, .ref mW, .int (zz ↑nr), .ref mR, .ref mB, .ref mS, .int (zz ↑ac), .ref mA, .int (zz ↑ke), .ref mK, .int (zz ↑se), .ref mE, .ref mT, .int (zz ↑tl), .int (zz ↑at_), .ref mD, .int (zz ↑rp), .ref nP, .ref nW, .int (zz ↑rr), .ref nR, .ref nB, .ref mN, .ref mO, .ref mQ, .int (zz dp), .ref mX])] (FP (some (.int (zz (-1)))) [(m, ob 7 [.int (zz ↑np), .ref mP, .ref mW, .int (zz ↑nr), .ref mR, .ref mB, .ref mS, .int (zz ↑ac), .ref mA, .int (zz ↑ke), .ref mK, .int (zz ↑se), .ref mE, .ref mT, .int (zz ↑tl), .int (zz ↑at_), .ref mD, .int (zz ↑rp), .ref nP, .ref nW, .int (zz ↑rr), .ref nR, .ref nB, .ref mN, .ref mO, .ref mQ, .int (zz dp), .ref mX])])
  refine rr_aload_n 0 dX7_turn_0 rfl ?_
  refine rr_iload_n 1 dX7_turn_1 rfl ?_
  refine rr_callFi (ws2 := [(m, ob 7 [.int (zz ↑np), .ref mP, .ref mW, .int (zz ↑nr), .ref mR, .ref mB, .ref mS, .int (zz ↑ac), .ref mA, .int (zz ↑ke), .ref mK, .int (zz ↑se), .ref mE, .ref mT, .int (zz ↑tl), .int (zz ↑at_), .ref mD, .int (zz ↑rp), .ref nP, .ref nW, .int (zz ↑rr), .ref nR, .ref nB, .ref mN, .ref mO, .ref mQ, .int (zz dp), .ref mX])]) (wr := []) (call_V (q0 := 0) kX7_177 (c_MisPeg E (d + 2) m mP mW mR mB mS mA mK mE mT mD nP nW nR nB mN mO mQ mX np nr ac ke se tl at_ rp rr dp y (by omega) (by omega)) rfl rfl rfl rfl (by omega) (by decide) (Nat.le_of_ble_eq_true rfl) (Nat.le_of_ble_eq_true rfl) dX7_turn_2) [0] [] [0] rfl rfl rfl rfl rfl rfl rfl ?_
  refine rr_if_neD 10 dX7_turn_5 (by decide) (fun c_1 => ?_) (fun c_1 => ?_)
  · skip
    exfalso; omega
  · skip
    refine rr_iconst dX7_turn_8 ?_
    exact rr_iret dX7_turn_9 rfl rfl ⟨rfl, rfl⟩
set_option maxRecDepth 100000 in
set_option maxHeartbeats 400000 in
theorem c_Mturn_no (E : Ev) (d : Nat) (m mP mW mR mB mS mA mK mE mT mD nP nW nR nB mN mO mQ mX : Nat) (np nr ac ke se tl at_ rp rr : Nat) (dp : Int) (pg wn ro nw st kd lf qt wd rx ry h : Nat → Int) (hP : PL np kd lf qt wd pg wn) (hpc : pOK np kd lf qt wd) (hRo : RoL nr rx ry ro) (hrc : rOK nr rx ry) (hA : AG 7 st (amF h)) (ho : hOK h) (hv : hV np h) (y : Int) (hy : 0 ≤ y ∧ y < (np : Int)) (hd : h 2 = 0) : SP E mX7_turn (d + 4) 0 0 [.ref m, .int (zz y)] [(m, ob 7 [.int (zz ↑np), .ref mP, .ref mW, .int (zz ↑nr), .ref mR, .ref mB, .ref mS, .int (zz ↑ac), .ref mA, .int (zz ↑ke), .ref mK, .int (zz ↑se), .ref mE, .ref mT, .int (zz ↑tl), .int (zz ↑at_), .ref mD, .int (zz ↑rp), .ref nP, .ref nW, .int (zz ↑rr), .ref nR, .ref nB, .ref mN, .ref mO, .ref mQ, .int (zz dp), .ref mX]), (mN, aI E 7 nw), (mS, aI E 7 st)] (fun v w1 => v = some (.int (zz (-2))) ∧ ∃ nw2 : Nat → Int, w1 = [(m, ob 7 [.int (zz ↑np), .ref mP, .ref mW, .int (zz ↑nr), .ref mR, .ref mB, .ref mS, .int (zz ↑ac), .ref mA, .int (zz ↑ke), .ref mK, .int (zz ↑se), .ref mE, .ref mT, .int (zz ↑tl), .int (zz ↑at_), .ref mD, .int (zz ↑rp), .ref nP, .ref nW, .int (zz ↑rr), .ref nR, .ref nB, .ref mN, .ref mO, .ref mQ, .int (zz dp), .ref mX]), (mN, aI E 7 nw2), (mS, aI E 7 st)]) := by
  show RR E mX7_turn (d + 4) 0 0 0 [(0, .ref m), (1, .int (zz y))] [] [(m, ob 7 [.int (zz ↑np), .ref mP, .ref mW, .int (zz ↑nr), .ref mR, .ref mB, .ref mS, .int (zz ↑ac), .ref mA, .int (zz ↑ke), .ref mK, .int (zz ↑se), .ref mE, .ref mT, .int (zz ↑tl), .int (zz ↑at_), .ref mD, .int (zz ↑rp), .ref nP, .ref nW, .int (zz ↑rr), .ref nR, .ref nB, .ref mN, .ref mO, .ref mQ, .int (zz dp), .ref mX]), (mN, aI E 7 nw), (mS, aI E 7 st)] (fun v w1 => v = some (.int (zz (-2))) ∧ ∃ nw2 : Nat → Int, w1 = [(m, ob 7 [.int (zz ↑np), .ref mP, .ref mW, .int (zz ↑nr), .ref mR, .ref mB, .ref mS, .int (zz ↑ac), .ref mA, .int (zz ↑ke), .ref mK, .int (zz ↑se), .ref mE, .ref mT, .int (zz ↑tl), .int (zz ↑at_), .ref mD, .int (zz ↑rp), .ref nP, .ref nW, .int (zz ↑rr), .ref nR, .ref nB, .ref mN, .ref mO, .ref mQ, .int (zz dp), .ref mX]), (mN, aI E 7 nw2), (mS, aI E 7 st)])
  have hp := hP.ok hpc
  have hr := hRo.ok hrc
  have hn := hpc.1
  have hr1 := hrc.1
  have hs := hA.ok ho hv
  obtain ⟨o0, o1, o2, o3, o5, o6⟩ := id ho
  obtain ⟨e0, e1, e2, e3, e4, e5, e6⟩ := hA.all
  refine rr_aload_n 0 dX7_turn_0 rfl ?_
  refine rr_iload_n 1 dX7_turn_1 rfl ?_
  refine rr_callFi (ws2 := [(m, ob 7 [.int (zz ↑np), .ref mP, .ref mW, .int (zz ↑nr), .ref mR, .ref mB, .ref mS, .int (zz ↑ac), .ref mA, .int (zz ↑ke), .ref mK, .int (zz ↑se), .ref mE, .ref mT, .int (zz ↑tl), .int (zz ↑at_), .ref mD, .int (zz ↑rp), .ref nP, .ref nW, .int (zz ↑rr), .ref nR, .ref nB, .ref mN, .ref mO, .ref mQ, .int (zz dp), .ref mX]), (mN, aI E 7 nw), (mS, aI E 7 st)]) (wr := [(mN, aI E 7 nw), (mS, aI E 7 st)]) (call_V (q0 := 0) kX7_177 (c_MisPeg E (d + 2) m mP mW mR mB mS mA mK mE mT mD nP nW nR nB mN mO mQ mX np nr ac ke se tl at_ rp rr dp y (by omega) (by omega)) rfl rfl rfl rfl (by omega) (by decide) (Nat.le_of_ble_eq_true rfl) (Nat.le_of_ble_eq_true rfl) dX7_turn_2) [0] [1, 2] [2, 0, 1] rfl rfl rfl rfl rfl rfl rfl ?_
  refine rr_if_neD 10 dX7_turn_5 (by decide) (fun c_1 => ?_) (fun c_1 => ?_)
  · skip
    refine rr_aload_n 0 dX7_turn_10 rfl ?_
    refine rr_aload_n 0 dX7_turn_11 rfl ?_
    refine rr_get fX7_22 0 rfl rfl dX7_turn_12 ?_
    have ke_2 : cpI nw 0 st 0 7 0 = st 0 := rfl
    have ke_3 : cpI nw 0 st 0 7 1 = st 1 := rfl
    have ke_4 : cpI nw 0 st 0 7 2 = st 2 := rfl
    have ke_5 : cpI nw 0 st 0 7 3 = st 3 := rfl
    have ke_6 : cpI nw 0 st 0 7 4 = st 4 := rfl
    have ke_7 : cpI nw 0 st 0 7 5 = st 5 := rfl
    have ke_8 : cpI nw 0 st 0 7 6 = st 6 := rfl
    have hA9 : AG 7 (cpI nw 0 st 0 7) (amF h) := cp7 hA
    have ho9 : hOK h := ho
    have hv9 : hV np h := hv
    have hm9 : mOK np (cpI nw 0 st 0 7) := hA9.ok ho9 hv9
    obtain ⟨ea9, eb9, ec9, ed9, ee9, ef9, eg9⟩ := hA9.all
    obtain ⟨na9, nb9, nc9, nd9, nf9, ng9⟩ := id hm9
    refine rr_callFv (ws2 := [(m, ob 7 [.int (zz ↑np), .ref mP, .ref mW, .int (zz ↑nr), .ref mR, .ref mB, .ref mS, .int (zz ↑ac), .ref mA, .int (zz ↑ke), .ref mK, .int (zz ↑se), .ref mE, .ref mT, .int (zz ↑tl), .int (zz ↑at_), .ref mD, .int (zz ↑rp), .ref nP, .ref nW, .int (zz ↑rr), .ref nR, .ref nB, .ref mN, .ref mO, .ref mQ, .int (zz dp), .ref mX]), (mN, aI E 7 (cpI nw 0 st 0 7)), (mS, aI E 7 st)]) (wr := []) (call_V (q0 := 0) kX7_180 (c_from E (d + 2) m mP mW mR mB mS mA mK mE mT mD nP nW nR nB mN mO mQ mX np nr ac ke se tl at_ rp rr dp mS nw st) rfl rfl rfl rfl (by omega) (by decide) (Nat.le_of_ble_eq_true rfl) (Nat.le_of_ble_eq_true rfl) dX7_turn_15) [0, 1, 2] [] [0, 1, 2] rfl rfl rfl rfl rfl rfl rfl ?_
    refine rr_aload_n 0 dX7_turn_18 rfl ?_
    refine rr_callFi (ws2 := [(m, ob 7 [.int (zz ↑np), .ref mP, .ref mW, .int (zz ↑nr), .ref mR, .ref mB, .ref mS, .int (zz ↑ac), .ref mA, .int (zz ↑ke), .ref mK, .int (zz ↑se), .ref mE, .ref mT, .int (zz ↑tl), .int (zz ↑at_), .ref mD, .int (zz ↑rp), .ref nP, .ref nW, .int (zz ↑rr), .ref nR, .ref nB, .ref mN, .ref mO, .ref mQ, .int (zz dp), .ref mX]), (mN, aI E 7 (cpI nw 0 st 0 7)), (mS, aI E 7 st)]) (wr := [(mS, aI E 7 st)]) (call_V (q0 := 0) kX7_151 (c_MisDown E (d + 3) m mP mW mR mB mS mA mK mE mT mD nP nW nR nB mN mO mQ mX np nr ac ke se tl at_ rp rr dp (cpI nw 0 st 0 7) (by omega)) rfl rfl rfl rfl (by omega) (by decide) (Nat.le_of_ble_eq_true rfl) (Nat.le_of_ble_eq_true rfl) dX7_turn_19) [0, 1] [2] [1, 2, 0] rfl rfl rfl rfl rfl rfl rfl ?_
    refine rr_if_eqD 28 dX7_turn_22 (by decide) (fun c_10 => ?_) (fun c_10 => ?_)
    · skip
      exfalso; omega
    · skip
      refine rr_bipush dX7_turn_25 (by decide) ?_
      exact rr_iret dX7_turn_27 rfl rfl ⟨rfl, _, rfl⟩
  · skip
    exfalso; omega
set_option maxRecDepth 100000 in
set_option maxHeartbeats 400000 in
theorem c_Mturn_y (E : Ev) (d : Nat) (m mP mW mR mB mS mA mK mE mT mD nP nW nR nB mN mO mQ mX : Nat) (np nr ac ke se tl at_ rp rr : Nat) (dp : Int) (pg wn ro nw st kd lf qt wd rx ry h : Nat → Int) (hP : PL np kd lf qt wd pg wn) (hpc : pOK np kd lf qt wd) (hRo : RoL nr rx ry ro) (hrc : rOK nr rx ry) (hA : AG 7 st (amF h)) (ho : hOK h) (hv : hV np h) (was : Nat → Int) (i : Nat) (hi : i < np) (hc : ac ≤ 8) (hd : ¬ h 2 = 0) : SP E mX7_turn (d + 4) 0 0 [.ref m, .int (zz ↑i)] [(m, ob 7 [.int (zz ↑np), .ref mP, .ref mW, .int (zz ↑nr), .ref mR, .ref mB, .ref mS, .int (zz ↑ac), .ref mA, .int (zz ↑ke), .ref mK, .int (zz ↑se), .ref mE, .ref mT, .int (zz ↑tl), .int (zz ↑at_), .ref mD, .int (zz ↑rp), .ref nP, .ref nW, .int (zz ↑rr), .ref nR, .ref nB, .ref mN, .ref mO, .ref mQ, .int (zz dp), .ref mX]), (mP, aI E 21 pg), (mW, aI E 10 wn), (mN, aI E 7 nw), (mS, aI E 7 st), (mA, aI E 56 was)] (fun v w1 => v = some (.int (zz (tnF np kd lf qt wd h i 2))) ∧ ∃ nw2 st2 : Nat → Int, AG 7 st2 (amF (tnF np kd lf qt wd h i)) ∧ w1 = [(m, ob 7 [.int (zz ↑np), .ref mP, .ref mW, .int (zz ↑nr), .ref mR, .ref mB, .ref mS, .int (zz (↑(putN ac))), .ref mA, .int (zz ↑ke), .ref mK, .int (zz ↑se), .ref mE, .ref mT, .int (zz ↑tl), .int (zz ↑at_), .ref mD, .int (zz ↑rp), .ref nP, .ref nW, .int (zz ↑rr), .ref nR, .ref nB, .ref mN, .ref mO, .ref mQ, .int (zz dp), .ref mX]), (mP, aI E 21 pg), (mW, aI E 10 wn), (mN, aI E 7 nw2), (mS, aI E 7 st2), (mA, aI E 56 (rmM was ac st))]) := by
  show RR E mX7_turn (d + 4) 0 0 0 [(0, .ref m), (1, .int (zz ↑i))] [] [(m, ob 7 [.int (zz ↑np), .ref mP, .ref mW, .int (zz ↑nr), .ref mR, .ref mB, .ref mS, .int (zz ↑ac), .ref mA, .int (zz ↑ke), .ref mK, .int (zz ↑se), .ref mE, .ref mT, .int (zz ↑tl), .int (zz ↑at_), .ref mD, .int (zz ↑rp), .ref nP, .ref nW, .int (zz ↑rr), .ref nR, .ref nB, .ref mN, .ref mO, .ref mQ, .int (zz dp), .ref mX]), (mP, aI E 21 pg), (mW, aI E 10 wn), (mN, aI E 7 nw), (mS, aI E 7 st), (mA, aI E 56 was)] (fun v w1 => v = some (.int (zz (tnF np kd lf qt wd h i 2))) ∧ ∃ nw2 st2 : Nat → Int, AG 7 st2 (amF (tnF np kd lf qt wd h i)) ∧ w1 = [(m, ob 7 [.int (zz ↑np), .ref mP, .ref mW, .int (zz ↑nr), .ref mR, .ref mB, .ref mS, .int (zz (↑(putN ac))), .ref mA, .int (zz ↑ke), .ref mK, .int (zz ↑se), .ref mE, .ref mT, .int (zz ↑tl), .int (zz ↑at_), .ref mD, .int (zz ↑rp), .ref nP, .ref nW, .int (zz ↑rr), .ref nR, .ref nB, .ref mN, .ref mO, .ref mQ, .int (zz dp), .ref mX]), (mP, aI E 21 pg), (mW, aI E 10 wn), (mN, aI E 7 nw2), (mS, aI E 7 st2), (mA, aI E 56 (rmM was ac st))])
  have hp := hP.ok hpc
  have hr := hRo.ok hrc
  have hn := hpc.1
  have hr1 := hrc.1
  have hs := hA.ok ho hv
  obtain ⟨o0, o1, o2, o3, o5, o6⟩ := id ho
  obtain ⟨e0, e1, e2, e3, e4, e5, e6⟩ := hA.all
  refine rr_aload_n 0 dX7_turn_0 rfl ?_
  refine rr_iload_n 1 dX7_turn_1 rfl ?_
  refine rr_callFi (ws2 := [(m, ob 7 [.int (zz ↑np), .ref mP, .ref mW, .int (zz ↑nr), .ref mR, .ref mB, .ref mS, .int (zz ↑ac), .ref mA, .int (zz ↑ke), .ref mK, .int (zz ↑se), .ref mE, .ref mT, .int (zz ↑tl), .int (zz ↑at_), .ref mD, .int (zz ↑rp), .ref nP, .ref nW, .int (zz ↑rr), .ref nR, .ref nB, .ref mN, .ref mO, .ref mQ, .int (zz dp), .ref mX]), (mP, aI E 21 pg), (mW, aI E 10 wn), (mN, aI E 7 nw), (mS, aI E 7 st), (mA, aI E 56 was)]) (wr := [(mP, aI E 21 pg), (mW, aI E 10 wn), (mN, aI E 7 nw), (mS, aI E 7 st), (mA, aI E 56 was)]) (call_V (q0 := 0) kX7_177 (c_MisPeg E (d + 2) m mP mW mR mB mS mA mK mE mT mD nP nW nR nB mN mO mQ mX np nr ac ke se tl at_ rp rr dp ↑i (by omega) (by omega)) rfl rfl rfl rfl (by omega) (by decide) (Nat.le_of_ble_eq_true rfl) (Nat.le_of_ble_eq_true rfl) dX7_turn_2) [0] [1, 2, 3, 4, 5] [5, 0, 1, 2, 3, 4] rfl rfl rfl rfl rfl rfl rfl ?_
  refine rr_if_neD 10 dX7_turn_5 (by decide) (fun c_1 => ?_) (fun c_1 => ?_)
  · skip
    refine rr_aload_n 0 dX7_turn_10 rfl ?_
    refine rr_aload_n 0 dX7_turn_11 rfl ?_
    refine rr_get fX7_22 0 rfl rfl dX7_turn_12 ?_
    have ke_2 : cpI nw 0 st 0 7 0 = st 0 := rfl
    have ke_3 : cpI nw 0 st 0 7 1 = st 1 := rfl
    have ke_4 : cpI nw 0 st 0 7 2 = st 2 := rfl
    have ke_5 : cpI nw 0 st 0 7 3 = st 3 := rfl
    have ke_6 : cpI nw 0 st 0 7 4 = st 4 := rfl
    have ke_7 : cpI nw 0 st 0 7 5 = st 5 := rfl
    have ke_8 : cpI nw 0 st 0 7 6 = st 6 := rfl
    have hA9 : AG 7 (cpI nw 0 st 0 7) (amF h) := cp7 hA
    have ho9 : hOK h := ho
    have hv9 : hV np h := hv
    have hm9 : mOK np (cpI nw 0 st 0 7) := hA9.ok ho9 hv9
    obtain ⟨ea9, eb9, ec9, ed9, ee9, ef9, eg9⟩ := hA9.all
    obtain ⟨na9, nb9, nc9, nd9, nf9, ng9⟩ := id hm9
    refine rr_callFv (ws2 := [(m, ob 7 [.int (zz ↑np), .ref mP, .ref mW, .int (zz ↑nr), .ref mR, .ref mB, .ref mS, .int (zz ↑ac), .ref mA, .int (zz ↑ke), .ref mK, .int (zz ↑se), .ref mE, .ref mT, .int (zz ↑tl), .int (zz ↑at_), .ref mD, .int (zz ↑rp), .ref nP, .ref nW, .int (zz ↑rr), .ref nR, .ref nB, .ref mN, .ref mO, .ref mQ, .int (zz dp), .ref mX]), (mP, aI E 21 pg), (mW, aI E 10 wn), (mN, aI E 7 (cpI nw 0 st 0 7)), (mS, aI E 7 st), (mA, aI E 56 was)]) (wr := [(mP, aI E 21 pg), (mW, aI E 10 wn), (mA, aI E 56 was)]) (call_V (q0 := 0) kX7_180 (c_from E (d + 2) m mP mW mR mB mS mA mK mE mT mD nP nW nR nB mN mO mQ mX np nr ac ke se tl at_ rp rr dp mS nw st) rfl rfl rfl rfl (by omega) (by decide) (Nat.le_of_ble_eq_true rfl) (Nat.le_of_ble_eq_true rfl) dX7_turn_15) [0, 3, 4] [1, 2, 5] [3, 0, 1, 4, 5, 2] rfl rfl rfl rfl rfl rfl rfl ?_
    refine rr_aload_n 0 dX7_turn_18 rfl ?_
    refine rr_callFi (ws2 := [(m, ob 7 [.int (zz ↑np), .ref mP, .ref mW, .int (zz ↑nr), .ref mR, .ref mB, .ref mS, .int (zz ↑ac), .ref mA, .int (zz ↑ke), .ref mK, .int (zz ↑se), .ref mE, .ref mT, .int (zz ↑tl), .int (zz ↑at_), .ref mD, .int (zz ↑rp), .ref nP, .ref nW, .int (zz ↑rr), .ref nR, .ref nB, .ref mN, .ref mO, .ref mQ, .int (zz dp), .ref mX]), (mP, aI E 21 pg), (mW, aI E 10 wn), (mN, aI E 7 (cpI nw 0 st 0 7)), (mS, aI E 7 st), (mA, aI E 56 was)]) (wr := [(mP, aI E 21 pg), (mW, aI E 10 wn), (mS, aI E 7 st), (mA, aI E 56 was)]) (call_V (q0 := 0) kX7_151 (c_MisDown E (d + 3) m mP mW mR mB mS mA mK mE mT mD nP nW nR nB mN mO mQ mX np nr ac ke se tl at_ rp rr dp (cpI nw 0 st 0 7) (by omega)) rfl rfl rfl rfl (by omega) (by decide) (Nat.le_of_ble_eq_true rfl) (Nat.le_of_ble_eq_true rfl) dX7_turn_19) [0, 3] [1, 2, 4, 5] [4, 0, 1, 5, 2, 3] rfl rfl rfl rfl rfl rfl rfl ?_
    refine rr_if_eqD 28 dX7_turn_22 (by decide) (fun c_10 => ?_) (fun c_10 => ?_)
    · skip
      refine rr_aload_n 0 dX7_turn_28 rfl ?_
      refine rr_callFv (ws2 := [(m, ob 7 [.int (zz ↑np), .ref mP, .ref mW, .int (zz ↑nr), .ref mR, .ref mB, .ref mS, .int (zz (↑(putN ac))), .ref mA, .int (zz ↑ke), .ref mK, .int (zz ↑se), .ref mE, .ref mT, .int (zz ↑tl), .int (zz ↑at_), .ref mD, .int (zz ↑rp), .ref nP, .ref nW, .int (zz ↑rr), .ref nR, .ref nB, .ref mN, .ref mO, .ref mQ, .int (zz dp), .ref mX]), (mP, aI E 21 pg), (mW, aI E 10 wn), (mN, aI E 7 (cpI nw 0 st 0 7)), (mS, aI E 7 st), (mA, aI E 56 (rmM was ac st))]) (wr := [(mP, aI E 21 pg), (mW, aI E 10 wn), (mN, aI E 7 (cpI nw 0 st 0 7))]) (call_V (q0 := 0) kX7_187 (c_remembers E (d + 2) m mP mW mR mB mS mA mK mE mT mD nP nW nR nB mN mO mQ mX np nr ac ke se tl at_ rp rr dp was st (by omega)) rfl rfl rfl rfl (by omega) (by decide) (Nat.le_of_ble_eq_true rfl) (Nat.le_of_ble_eq_true rfl) dX7_turn_29) [0, 5, 4] [1, 2, 3] [3, 0, 1, 2, 5, 4] rfl rfl rfl rfl rfl rfl rfl ?_
      refine rr_aload_n 0 dX7_turn_32 rfl ?_
      refine rr_iload_n 1 dX7_turn_33 rfl ?_
      have hA11 : AG 7 (tnM pg wn (cpI nw 0 st 0 7) i) (amF (tnF np kd lf qt wd h i)) := tn_rel hP hpc hv9 hA9 (by omega)
      have ho11 : hOK (tnF np kd lf qt wd h i) := tnF_ok hpc ho9 (by omega)
      have hv11 : hV np (tnF np kd lf qt wd h i) := tnF_hV (by omega)
      have hm11 : mOK np (tnM pg wn (cpI nw 0 st 0 7) i) := hA11.ok ho11 hv11
      obtain ⟨ea11, eb11, ec11, ed11, ee11, ef11, eg11⟩ := hA11.all
      obtain ⟨na11, nb11, nc11, nd11, nf11, ng11⟩ := id hm11
      refine rr_callFv (ws2 := [(m, ob 7 [.int (zz ↑np), .ref mP, .ref mW, .int (zz ↑nr), .ref mR, .ref mB, .ref mS, .int (zz (↑(putN ac))), .ref mA, .int (zz ↑ke), .ref mK, .int (zz ↑se), .ref mE, .ref mT, .int (zz ↑tl), .int (zz ↑at_), .ref mD, .int (zz ↑rp), .ref nP, .ref nW, .int (zz ↑rr), .ref nR, .ref nB, .ref mN, .ref mO, .ref mQ, .int (zz dp), .ref mX]), (mP, aI E 21 pg), (mW, aI E 10 wn), (mN, aI E 7 (tnM pg wn (cpI nw 0 st 0 7) i)), (mS, aI E 7 st), (mA, aI E 56 (rmM was ac st))]) (wr := [(mS, aI E 7 st), (mA, aI E 56 (rmM was ac st))]) (call_V (q0 := 0) kX7_190 (c_turns E (d + 0) m mP mW mR mB mS mA mK mE mT mD nP nW nR nB mN mO mQ mX np nr (putN ac) ke se tl at_ rp rr dp pg wn (cpI nw 0 st 0 7) i hp hm9 (by omega)) rfl rfl rfl rfl (by omega) (by decide) (Nat.le_of_ble_eq_true rfl) (Nat.le_of_ble_eq_true rfl) dX7_turn_34) [0, 1, 2, 3] [4, 5] [2, 3, 4, 5, 0, 1] rfl rfl rfl rfl rfl rfl rfl ?_
      refine rr_aload_n 0 dX7_turn_37 rfl ?_
      refine rr_get fX7_22 0 rfl rfl dX7_turn_38 ?_
      refine rr_iconst dX7_turn_41 ?_
      refine rr_aload_n 0 dX7_turn_42 rfl ?_
      refine rr_get fX7_52 0 rfl rfl dX7_turn_43 ?_
      refine rr_iconst dX7_turn_46 ?_
      refine rr_bipush dX7_turn_47 (by decide) ?_
      refine rr_callFv (ws2 := [(m, ob 7 [.int (zz ↑np), .ref mP, .ref mW, .int (zz ↑nr), .ref mR, .ref mB, .ref mS, .int (zz (↑(putN ac))), .ref mA, .int (zz ↑ke), .ref mK, .int (zz ↑se), .ref mE, .ref mT, .int (zz ↑tl), .int (zz ↑at_), .ref mD, .int (zz ↑rp), .ref nP, .ref nW, .int (zz ↑rr), .ref nR, .ref nB, .ref mN, .ref mO, .ref mQ, .int (zz dp), .ref mX]), (mP, aI E 21 pg), (mW, aI E 10 wn), (mN, aI E 7 (tnM pg wn (cpI nw 0 st 0 7) i)), (mS, aI E 7 (cpI st 0 (tnM pg wn (cpI nw 0 st 0 7) i) 0 7)), (mA, aI E 56 (rmM was ac st))]) (wr := [(m, ob 7 [.int (zz ↑np), .ref mP, .ref mW, .int (zz ↑nr), .ref mR, .ref mB, .ref mS, .int (zz (↑(putN ac))), .ref mA, .int (zz ↑ke), .ref mK, .int (zz ↑se), .ref mE, .ref mT, .int (zz ↑tl), .int (zz ↑at_), .ref mD, .int (zz ↑rp), .ref nP, .ref nW, .int (zz ↑rr), .ref nR, .ref nB, .ref mN, .ref mO, .ref mQ, .int (zz dp), .ref mX]), (mP, aI E 21 pg), (mW, aI E 10 wn), (mA, aI E 56 (rmM was ac st))]) (call_S kX7_138 (c_copies E (d + 3) mS mN 7 7 0 0 7 st (tnM pg wn (cpI nw 0 st 0 7) i) (by omega) (by omega) (by omega) (by omega)) rfl (by omega) (by decide) (Nat.le_of_ble_eq_true rfl) (Nat.le_of_ble_eq_true rfl) dX7_turn_49) [4, 3] [0, 1, 2, 5] [0, 1, 2, 5, 4, 3] rfl rfl rfl rfl rfl rfl rfl ?_
      refine rr_aload_n 0 dX7_turn_52 rfl ?_
      refine rr_get fX7_22 0 rfl rfl dX7_turn_53 ?_
      refine rr_iconst dX7_turn_56 ?_
      refine rr_iald 4 2 rfl rfl (by omega) (by omega) dX7_turn_57 ?_
      exact rr_iret dX7_turn_58 rfl rfl ⟨congrArg (fun z => some (Value.int (zz z))) (by exact (cp7 hA11) 2 (by omega)), tnM pg wn (cpI nw 0 st 0 7) i, cpI st 0 (tnM pg wn (cpI nw 0 st 0 7) i) 0 7, cp7 hA11, rfl⟩
    · skip
      exfalso; omega
  · skip
    exfalso; omega
set_option maxRecDepth 100000 in
set_option maxHeartbeats 400000 in
theorem c_MflyOn_no (E : Ev) (d : Nat) (m mP mW mR mB mS mA mK mE mT mD nP nW nR nB mN mO mQ mX : Nat) (np nr ac ke se tl at_ rp rr : Nat) (dp : Int) (pg wn ro nw st kd lf qt wd rx ry h : Nat → Int) (hP : PL np kd lf qt wd pg wn) (hpc : pOK np kd lf qt wd) (hRo : RoL nr rx ry ro) (hrc : rOK nr rx ry) (hA : AG 7 st (amF h)) (ho : hOK h) (hv : hV np h) (hd : h 2 = 0) : SP E mX7_flyOn (d + 3) 0 0 [.ref m] [(m, ob 7 [.int (zz ↑np), .ref mP, .ref mW, .int (zz ↑nr), .ref mR, .ref mB, .ref mS, .int (zz ↑ac), .ref mA, .int (zz ↑ke), .ref mK, .int (zz ↑se), .ref mE, .ref mT, .int (zz ↑tl), .int (zz ↑at_), .ref mD, .int (zz ↑rp), .ref nP, .ref nW, .int (zz ↑rr), .ref nR, .ref nB, .ref mN, .ref mO, .ref mQ, .int (zz dp), .ref mX]), (mN, aI E 7 nw), (mS, aI E 7 st)] (fun v w1 => v = some (.int (zz (-2))) ∧ ∃ nw2 : Nat → Int, w1 = [(m, ob 7 [.int (zz ↑np), .ref mP, .ref mW, .int (zz ↑nr), .ref mR, .ref mB, .ref mS, .int (zz ↑ac), .ref mA, .int (zz ↑ke), .ref mK, .int (zz ↑se), .ref mE, .ref mT, .int (zz ↑tl), .int (zz ↑at_), .ref mD, .int (zz ↑rp), .ref nP, .ref nW, .int (zz ↑rr), .ref nR, .ref nB, .ref mN, .ref mO, .ref mQ, .int (zz dp), .ref mX]), (mN, aI E 7 nw2), (mS, aI E 7 st)]) := by
  show RR E mX7_flyOn (d + 3) 0 0 0 [(0, .ref m)] [] [(m, ob 7 [.int (zz ↑np), .ref mP, .ref mW, .int (zz ↑nr), .ref mR, .ref mB, .ref mS, .int (zz ↑ac), .ref mA, .int (zz ↑ke), .ref mK, .int (zz ↑se), .ref mE, .ref mT, .int (zz ↑tl), .int (zz ↑at_), .ref mD, .int (zz ↑rp), .ref nP, .ref nW, .int (zz ↑rr), .ref nR, .ref nB, .ref mN, .ref mO, .ref mQ, .int (zz dp), .ref mX]), (mN, aI E 7 nw), (mS, aI E 7 st)] (fun v w1 => v = some (.int (zz (-2))) ∧ ∃ nw2 : Nat → Int, w1 = [(m, ob 7 [.int (zz ↑np), .ref mP, .ref mW, .int (zz ↑nr), .ref mR, .ref mB, .ref mS, .int (zz ↑ac), .ref mA, .int (zz ↑ke), .ref mK, .int (zz ↑se), .ref mE, .ref mT, .int (zz ↑tl), .int (zz ↑at_), .ref mD, .int (zz ↑rp), .ref nP, .ref nW, .int (zz ↑rr), .ref nR, .ref nB, .ref mN, .ref mO, .ref mQ, .int (zz dp), .ref mX]), (mN, aI E 7 nw2), (mS, aI E 7 st)])
  have hp := hP.ok hpc
  have hr := hRo.ok hrc
  have hn := hpc.1
  have hr1 := hrc.1
  have hs := hA.ok ho hv
  obtain ⟨o0, o1, o2, o3, o5, o6⟩ := id ho
  obtain ⟨e0, e1, e2, e3, e4, e5, e6⟩ := hA.all
  refine rr_aload_n 0 dX7_flyOn_0 rfl ?_
  refine rr_aload_n 0 dX7_flyOn_1 rfl ?_
  refine rr_get fX7_22 0 rfl rfl dX7_flyOn_2 ?_
  have ke_1 : cpI nw 0 st 0 7 0 = st 0 := rfl
  have ke_2 : cpI nw 0 st 0 7 1 = st 1 := rfl
  have ke_3 : cpI nw 0 st 0 7 2 = st 2 := rfl
  have ke_4 : cpI nw 0 st 0 7 3 = st 3 := rfl
  have ke_5 : cpI nw 0 st 0 7 4 = st 4 := rfl
  have ke_6 : cpI nw 0 st 0 7 5 = st 5 := rfl
  have ke_7 : cpI nw 0 st 0 7 6 = st 6 := rfl
  have hA8 : AG 7 (cpI nw 0 st 0 7) (amF h) := cp7 hA
  have ho8 : hOK h := ho
  have hv8 : hV np h := hv
  have hm8 : mOK np (cpI nw 0 st 0 7) := hA8.ok ho8 hv8
  obtain ⟨ea8, eb8, ec8, ed8, ee8, ef8, eg8⟩ := hA8.all
  obtain ⟨na8, nb8, nc8, nd8, nf8, ng8⟩ := id hm8
  refine rr_callFv (ws2 := [(m, ob 7 [.int (zz ↑np), .ref mP, .ref mW, .int (zz ↑nr), .ref mR, .ref mB, .ref mS, .int (zz ↑ac), .ref mA, .int (zz ↑ke), .ref mK, .int (zz ↑se), .ref mE, .ref mT, .int (zz ↑tl), .int (zz ↑at_), .ref mD, .int (zz ↑rp), .ref nP, .ref nW, .int (zz ↑rr), .ref nR, .ref nB, .ref mN, .ref mO, .ref mQ, .int (zz dp), .ref mX]), (mN, aI E 7 (cpI nw 0 st 0 7)), (mS, aI E 7 st)]) (wr := []) (call_V (q0 := 0) kX7_180 (c_from E (d + 1) m mP mW mR mB mS mA mK mE mT mD nP nW nR nB mN mO mQ mX np nr ac ke se tl at_ rp rr dp mS nw st) rfl rfl rfl rfl (by omega) (by decide) (Nat.le_of_ble_eq_true rfl) (Nat.le_of_ble_eq_true rfl) dX7_flyOn_5) [0, 1, 2] [] [0, 1, 2] rfl rfl rfl rfl rfl rfl rfl ?_
  refine rr_aload_n 0 dX7_flyOn_8 rfl ?_
  refine rr_callFi (ws2 := [(m, ob 7 [.int (zz ↑np), .ref mP, .ref mW, .int (zz ↑nr), .ref mR, .ref mB, .ref mS, .int (zz ↑ac), .ref mA, .int (zz ↑ke), .ref mK, .int (zz ↑se), .ref mE, .ref mT, .int (zz ↑tl), .int (zz ↑at_), .ref mD, .int (zz ↑rp), .ref nP, .ref nW, .int (zz ↑rr), .ref nR, .ref nB, .ref mN, .ref mO, .ref mQ, .int (zz dp), .ref mX]), (mN, aI E 7 (cpI nw 0 st 0 7)), (mS, aI E 7 st)]) (wr := [(mS, aI E 7 st)]) (call_V (q0 := 0) kX7_151 (c_MisDown E (d + 2) m mP mW mR mB mS mA mK mE mT mD nP nW nR nB mN mO mQ mX np nr ac ke se tl at_ rp rr dp (cpI nw 0 st 0 7) (by omega)) rfl rfl rfl rfl (by omega) (by decide) (Nat.le_of_ble_eq_true rfl) (Nat.le_of_ble_eq_true rfl) dX7_flyOn_9) [0, 1] [2] [1, 2, 0] rfl rfl rfl rfl rfl rfl rfl ?_
  refine rr_if_eqD 18 dX7_flyOn_12 (by decide) (fun c_9 => ?_) (fun c_9 => ?_)
  · skip
    exfalso; omega
  · skip
    refine rr_bipush dX7_flyOn_15 (by decide) ?_
    exact rr_iret dX7_flyOn_17 rfl rfl ⟨rfl, _, rfl⟩
set_option maxRecDepth 100000 in
set_option maxHeartbeats 400000 in
theorem c_MflyOn_y (E : Ev) (d : Nat) (m mP mW mR mB mS mA mK mE mT mD nP nW nR nB mN mO mQ mX : Nat) (np nr ac ke se tl at_ rp rr : Nat) (dp : Int) (pg wn ro nw st kd lf qt wd rx ry h : Nat → Int) (hP : PL np kd lf qt wd pg wn) (hpc : pOK np kd lf qt wd) (hRo : RoL nr rx ry ro) (hrc : rOK nr rx ry) (hA : AG 7 st (amF h)) (ho : hOK h) (hv : hV np h) (was : Nat → Int) (hc : ac ≤ 8) (hd : ¬ h 2 = 0) : SP E mX7_flyOn (d + 3) 0 0 [.ref m] [(m, ob 7 [.int (zz ↑np), .ref mP, .ref mW, .int (zz ↑nr), .ref mR, .ref mB, .ref mS, .int (zz ↑ac), .ref mA, .int (zz ↑ke), .ref mK, .int (zz ↑se), .ref mE, .ref mT, .int (zz ↑tl), .int (zz ↑at_), .ref mD, .int (zz ↑rp), .ref nP, .ref nW, .int (zz ↑rr), .ref nR, .ref nB, .ref mN, .ref mO, .ref mQ, .int (zz dp), .ref mX]), (mW, aI E 10 wn), (mN, aI E 7 nw), (mS, aI E 7 st), (mA, aI E 56 was)] (fun v w1 => v = some (.int (zz (10 * glF wd h 1 + glF wd h 0))) ∧ ∃ nw2 st2 : Nat → Int, AG 7 st2 (amF (glF wd h)) ∧ w1 = [(m, ob 7 [.int (zz ↑np), .ref mP, .ref mW, .int (zz ↑nr), .ref mR, .ref mB, .ref mS, .int (zz (↑(putN ac))), .ref mA, .int (zz ↑ke), .ref mK, .int (zz ↑se), .ref mE, .ref mT, .int (zz ↑tl), .int (zz ↑at_), .ref mD, .int (zz ↑rp), .ref nP, .ref nW, .int (zz ↑rr), .ref nR, .ref nB, .ref mN, .ref mO, .ref mQ, .int (zz dp), .ref mX]), (mW, aI E 10 wn), (mN, aI E 7 nw2), (mS, aI E 7 st2), (mA, aI E 56 (rmM was ac st))]) := by
  show RR E mX7_flyOn (d + 3) 0 0 0 [(0, .ref m)] [] [(m, ob 7 [.int (zz ↑np), .ref mP, .ref mW, .int (zz ↑nr), .ref mR, .ref mB, .ref mS, .int (zz ↑ac), .ref mA, .int (zz ↑ke), .ref mK, .int (zz ↑se), .ref mE, .ref mT, .int (zz ↑tl), .int (zz ↑at_), .ref mD, .int (zz ↑rp), .ref nP, .ref nW, .int (zz ↑rr), .ref nR, .ref nB, .ref mN, .ref mO, .ref mQ, .int (zz dp), .ref mX]), (mW, aI E 10 wn), (mN, aI E 7 nw), (mS, aI E 7 st), (mA, aI E 56 was)] (fun v w1 => v = some (.int (zz (10 * glF wd h 1 + glF wd h 0))) ∧ ∃ nw2 st2 : Nat → Int, AG 7 st2 (amF (glF wd h)) ∧ w1 = [(m, ob 7 [.int (zz ↑np), .ref mP, .ref mW, .int (zz ↑nr), .ref mR, .ref mB, .ref mS, .int (zz (↑(putN ac))), .ref mA, .int (zz ↑ke), .ref mK, .int (zz ↑se), .ref mE, .ref mT, .int (zz ↑tl), .int (zz ↑at_), .ref mD, .int (zz ↑rp), .ref nP, .ref nW, .int (zz ↑rr), .ref nR, .ref nB, .ref mN, .ref mO, .ref mQ, .int (zz dp), .ref mX]), (mW, aI E 10 wn), (mN, aI E 7 nw2), (mS, aI E 7 st2), (mA, aI E 56 (rmM was ac st))])
  have hp := hP.ok hpc
  have hr := hRo.ok hrc
  have hn := hpc.1
  have hr1 := hrc.1
  have hs := hA.ok ho hv
  obtain ⟨o0, o1, o2, o3, o5, o6⟩ := id ho
  obtain ⟨e0, e1, e2, e3, e4, e5, e6⟩ := hA.all
  have hAZ : AG 7 (updI (flF wn (cpI nw 0 st 0 7)) 6 (-1)) (amF (glF wd h)) := fl_rel hP (cp7 hA)
  refine rr_aload_n 0 dX7_flyOn_0 rfl ?_
  refine rr_aload_n 0 dX7_flyOn_1 rfl ?_
  refine rr_get fX7_22 0 rfl rfl dX7_flyOn_2 ?_
  have ke_1 : cpI nw 0 st 0 7 0 = st 0 := rfl
  have ke_2 : cpI nw 0 st 0 7 1 = st 1 := rfl
  have ke_3 : cpI nw 0 st 0 7 2 = st 2 := rfl
  have ke_4 : cpI nw 0 st 0 7 3 = st 3 := rfl
  have ke_5 : cpI nw 0 st 0 7 4 = st 4 := rfl
  have ke_6 : cpI nw 0 st 0 7 5 = st 5 := rfl
  have ke_7 : cpI nw 0 st 0 7 6 = st 6 := rfl
  have hA8 : AG 7 (cpI nw 0 st 0 7) (amF h) := cp7 hA
  have ho8 : hOK h := ho
  have hv8 : hV np h := hv
  have hm8 : mOK np (cpI nw 0 st 0 7) := hA8.ok ho8 hv8
  obtain ⟨ea8, eb8, ec8, ed8, ee8, ef8, eg8⟩ := hA8.all
  obtain ⟨na8, nb8, nc8, nd8, nf8, ng8⟩ := id hm8
  refine rr_callFv (ws2 := [(m, ob 7 [.int (zz ↑np), .ref mP, .ref mW, .int (zz ↑nr), .ref mR, .ref mB, .ref mS, .int (zz ↑ac), .ref mA, .int (zz ↑ke), .ref mK, .int (zz ↑se), .ref mE, .ref mT, .int (zz ↑tl), .int (zz ↑at_), .ref mD, .int (zz ↑rp), .ref nP, .ref nW, .int (zz ↑rr), .ref nR, .ref nB, .ref mN, .ref mO, .ref mQ, .int (zz dp), .ref mX]), (mW, aI E 10 wn), (mN, aI E 7 (cpI nw 0 st 0 7)), (mS, aI E 7 st), (mA, aI E 56 was)]) (wr := [(mW, aI E 10 wn), (mA, aI E 56 was)]) (call_V (q0 := 0) kX7_180 (c_from E (d + 1) m mP mW mR mB mS mA mK mE mT mD nP nW nR nB mN mO mQ mX np nr ac ke se tl at_ rp rr dp mS nw st) rfl rfl rfl rfl (by omega) (by decide) (Nat.le_of_ble_eq_true rfl) (Nat.le_of_ble_eq_true rfl) dX7_flyOn_5) [0, 2, 3] [1, 4] [2, 0, 3, 4, 1] rfl rfl rfl rfl rfl rfl rfl ?_
  refine rr_aload_n 0 dX7_flyOn_8 rfl ?_
  refine rr_callFi (ws2 := [(m, ob 7 [.int (zz ↑np), .ref mP, .ref mW, .int (zz ↑nr), .ref mR, .ref mB, .ref mS, .int (zz ↑ac), .ref mA, .int (zz ↑ke), .ref mK, .int (zz ↑se), .ref mE, .ref mT, .int (zz ↑tl), .int (zz ↑at_), .ref mD, .int (zz ↑rp), .ref nP, .ref nW, .int (zz ↑rr), .ref nR, .ref nB, .ref mN, .ref mO, .ref mQ, .int (zz dp), .ref mX]), (mW, aI E 10 wn), (mN, aI E 7 (cpI nw 0 st 0 7)), (mS, aI E 7 st), (mA, aI E 56 was)]) (wr := [(mW, aI E 10 wn), (mS, aI E 7 st), (mA, aI E 56 was)]) (call_V (q0 := 0) kX7_151 (c_MisDown E (d + 2) m mP mW mR mB mS mA mK mE mT mD nP nW nR nB mN mO mQ mX np nr ac ke se tl at_ rp rr dp (cpI nw 0 st 0 7) (by omega)) rfl rfl rfl rfl (by omega) (by decide) (Nat.le_of_ble_eq_true rfl) (Nat.le_of_ble_eq_true rfl) dX7_flyOn_9) [0, 2] [1, 3, 4] [3, 0, 4, 1, 2] rfl rfl rfl rfl rfl rfl rfl ?_
  refine rr_if_eqD 18 dX7_flyOn_12 (by decide) (fun c_9 => ?_) (fun c_9 => ?_)
  · skip
    refine rr_aload_n 0 dX7_flyOn_18 rfl ?_
    refine rr_callFv (ws2 := [(m, ob 7 [.int (zz ↑np), .ref mP, .ref mW, .int (zz ↑nr), .ref mR, .ref mB, .ref mS, .int (zz (↑(putN ac))), .ref mA, .int (zz ↑ke), .ref mK, .int (zz ↑se), .ref mE, .ref mT, .int (zz ↑tl), .int (zz ↑at_), .ref mD, .int (zz ↑rp), .ref nP, .ref nW, .int (zz ↑rr), .ref nR, .ref nB, .ref mN, .ref mO, .ref mQ, .int (zz dp), .ref mX]), (mW, aI E 10 wn), (mN, aI E 7 (cpI nw 0 st 0 7)), (mS, aI E 7 st), (mA, aI E 56 (rmM was ac st))]) (wr := [(mW, aI E 10 wn), (mN, aI E 7 (cpI nw 0 st 0 7))]) (call_V (q0 := 0) kX7_187 (c_remembers E (d + 1) m mP mW mR mB mS mA mK mE mT mD nP nW nR nB mN mO mQ mX np nr ac ke se tl at_ rp rr dp was st (by omega)) rfl rfl rfl rfl (by omega) (by decide) (Nat.le_of_ble_eq_true rfl) (Nat.le_of_ble_eq_true rfl) dX7_flyOn_19) [0, 4, 3] [1, 2] [2, 0, 1, 4, 3] rfl rfl rfl rfl rfl rfl rfl ?_
    refine rr_aload_n 0 dX7_flyOn_22 rfl ?_
    have ke_10 : flF wn (cpI nw 0 st 0 7) 2 = st 2 := rfl
    have ke_11 : flF wn (cpI nw 0 st 0 7) 3 = st 3 := rfl
    have ke_12 : flF wn (cpI nw 0 st 0 7) 5 = st 5 := rfl
    have ke_13 : flF wn (cpI nw 0 st 0 7) 6 = st 6 := rfl
    refine rr_callFv (ws2 := [(m, ob 7 [.int (zz ↑np), .ref mP, .ref mW, .int (zz ↑nr), .ref mR, .ref mB, .ref mS, .int (zz (↑(putN ac))), .ref mA, .int (zz ↑ke), .ref mK, .int (zz ↑se), .ref mE, .ref mT, .int (zz ↑tl), .int (zz ↑at_), .ref mD, .int (zz ↑rp), .ref nP, .ref nW, .int (zz ↑rr), .ref nR, .ref nB, .ref mN, .ref mO, .ref mQ, .int (zz dp), .ref mX]), (mW, aI E 10 wn), (mN, aI E 7 (flF wn (cpI nw 0 st 0 7))), (mS, aI E 7 st), (mA, aI E 56 (rmM was ac st))]) (wr := [(mS, aI E 7 st), (mA, aI E 56 (rmM was ac st))]) (call_V (q0 := 0) kX7_174 (c_flies E (d + 0) m mP mW mR mB mS mA mK mE mT mD nP nW nR nB mN mO mQ mX np nr (putN ac) ke se tl at_ rp rr dp pg wn (cpI nw 0 st 0 7) hp hm8) rfl rfl rfl rfl (by omega) (by decide) (Nat.le_of_ble_eq_true rfl) (Nat.le_of_ble_eq_true rfl) dX7_flyOn_23) [0, 1, 2] [3, 4] [2, 3, 4, 0, 1] rfl rfl rfl rfl rfl rfl rfl ?_
    refine rr_aload_n 0 dX7_flyOn_26 rfl ?_
    refine rr_get fX7_52 0 rfl rfl dX7_flyOn_27 ?_
    refine rr_bipush dX7_flyOn_30 (by decide) ?_
    refine rr_iconst dX7_flyOn_32 ?_
    refine rr_iast (ws2 := [(m, ob 7 [.int (zz ↑np), .ref mP, .ref mW, .int (zz ↑nr), .ref mR, .ref mB, .ref mS, .int (zz (↑(putN ac))), .ref mA, .int (zz ↑ke), .ref mK, .int (zz ↑se), .ref mE, .ref mT, .int (zz ↑tl), .int (zz ↑at_), .ref mD, .int (zz ↑rp), .ref nP, .ref nW, .int (zz ↑rr), .ref nR, .ref nB, .ref mN, .ref mO, .ref mQ, .int (zz dp), .ref mX]), (mW, aI E 10 wn), (mN, aI E 7 (updI (flF wn (cpI nw 0 st 0 7)) 6 (-1))), (mS, aI E 7 st), (mA, aI E 56 (rmM was ac st))]) 2 6 rfl rfl (by omega) (by omega) rfl dX7_flyOn_33 ?_
    refine rr_aload_n 0 dX7_flyOn_34 rfl ?_
    refine rr_get fX7_22 0 rfl rfl dX7_flyOn_35 ?_
    refine rr_iconst dX7_flyOn_38 ?_
    refine rr_aload_n 0 dX7_flyOn_39 rfl ?_
    refine rr_get fX7_52 0 rfl rfl dX7_flyOn_40 ?_
    refine rr_iconst dX7_flyOn_43 ?_
    refine rr_bipush dX7_flyOn_44 (by decide) ?_
    refine rr_callFv (ws2 := [(m, ob 7 [.int (zz ↑np), .ref mP, .ref mW, .int (zz ↑nr), .ref mR, .ref mB, .ref mS, .int (zz (↑(putN ac))), .ref mA, .int (zz ↑ke), .ref mK, .int (zz ↑se), .ref mE, .ref mT, .int (zz ↑tl), .int (zz ↑at_), .ref mD, .int (zz ↑rp), .ref nP, .ref nW, .int (zz ↑rr), .ref nR, .ref nB, .ref mN, .ref mO, .ref mQ, .int (zz dp), .ref mX]), (mW, aI E 10 wn), (mN, aI E 7 (updI (flF wn (cpI nw 0 st 0 7)) 6 (-1))), (mS, aI E 7 (cpI st 0 (updI (flF wn (cpI nw 0 st 0 7)) 6 (-1)) 0 7)), (mA, aI E 56 (rmM was ac st))]) (wr := [(m, ob 7 [.int (zz ↑np), .ref mP, .ref mW, .int (zz ↑nr), .ref mR, .ref mB, .ref mS, .int (zz (↑(putN ac))), .ref mA, .int (zz ↑ke), .ref mK, .int (zz ↑se), .ref mE, .ref mT, .int (zz ↑tl), .int (zz ↑at_), .ref mD, .int (zz ↑rp), .ref nP, .ref nW, .int (zz ↑rr), .ref nR, .ref nB, .ref mN, .ref mO, .ref mQ, .int (zz dp), .ref mX]), (mW, aI E 10 wn), (mA, aI E 56 (rmM was ac st))]) (call_S kX7_138 (c_copies E (d + 2) mS mN 7 7 0 0 7 st (updI (flF wn (cpI nw 0 st 0 7)) 6 (-1)) (by omega) (by omega) (by omega) (by omega)) rfl (by omega) (by decide) (Nat.le_of_ble_eq_true rfl) (Nat.le_of_ble_eq_true rfl) dX7_flyOn_46) [3, 2] [0, 1, 4] [0, 1, 4, 3, 2] rfl rfl rfl rfl rfl rfl rfl ?_
    refine rr_aload_n 0 dX7_flyOn_49 rfl ?_
    refine rr_callFi (ws2 := [(m, ob 7 [.int (zz ↑np), .ref mP, .ref mW, .int (zz ↑nr), .ref mR, .ref mB, .ref mS, .int (zz (↑(putN ac))), .ref mA, .int (zz ↑ke), .ref mK, .int (zz ↑se), .ref mE, .ref mT, .int (zz ↑tl), .int (zz ↑at_), .ref mD, .int (zz ↑rp), .ref nP, .ref nW, .int (zz ↑rr), .ref nR, .ref nB, .ref mN, .ref mO, .ref mQ, .int (zz dp), .ref mX]), (mW, aI E 10 wn), (mN, aI E 7 (updI (flF wn (cpI nw 0 st 0 7)) 6 (-1))), (mS, aI E 7 (cpI st 0 (updI (flF wn (cpI nw 0 st 0 7)) 6 (-1)) 0 7)), (mA, aI E 56 (rmM was ac st))]) (wr := [(mW, aI E 10 wn), (mS, aI E 7 (cpI st 0 (updI (flF wn (cpI nw 0 st 0 7)) 6 (-1)) 0 7)), (mA, aI E 56 (rmM was ac st))]) (call_V (q0 := 0) kX7_193 (c_place E (d + 2) m mP mW mR mB mS mA mK mE mT mD nP nW nR nB mN mO mQ mX np nr (putN ac) ke se tl at_ rp rr dp (updI (flF wn (cpI nw 0 st 0 7)) 6 (-1))) rfl rfl rfl rfl (by omega) (by decide) (Nat.le_of_ble_eq_true rfl) (Nat.le_of_ble_eq_true rfl) dX7_flyOn_50) [0, 2] [1, 3, 4] [3, 0, 4, 1, 2] rfl rfl rfl rfl rfl rfl rfl ?_
    exact rr_iret dX7_flyOn_53 rfl rfl ⟨congrArg (fun z => some (Value.int (zz z))) (by have z0 : updI (flF wn (cpI nw 0 st 0 7)) 6 (-1) 0 = glF wd h 0 := hAZ 0 (by omega); have z1 : updI (flF wn (cpI nw 0 st 0 7)) 6 (-1) 1 = glF wd h 1 := hAZ 1 (by omega); exact (show (10 * (updI (flF wn (cpI nw 0 st 0 7)) 6 (-1)) 1 + (updI (flF wn (cpI nw 0 st 0 7)) 6 (-1)) 0 : Int) = 10 * glF wd h 1 + glF wd h 0 by rw [z0, z1])), (updI (flF wn (cpI nw 0 st 0 7)) 6 (-1)), cpI st 0 (updI (flF wn (cpI nw 0 st 0 7)) 6 (-1)) 0 7, cp7 hAZ, rfl⟩
  · skip
    exfalso; omega
set_option maxRecDepth 100000 in
set_option maxHeartbeats 400000 in
theorem c_MsetDown_no (E : Ev) (d : Nat) (m mP mW mR mB mS mA mK mE mT mD nP nW nR nB mN mO mQ mX : Nat) (np nr ac ke se tl at_ rp rr : Nat) (dp : Int) (pg wn ro nw st kd lf qt wd rx ry h : Nat → Int) (hP : PL np kd lf qt wd pg wn) (hpc : pOK np kd lf qt wd) (hRo : RoL nr rx ry ro) (hrc : rOK nr rx ry) (hA : AG 7 st (amF h)) (ho : hOK h) (hv : hV np h) (hc : ¬ (landF nr rx ry h = true ∧ h 5 = 2)) : SP E mX7_setDown (d + 2) 0 0 [.ref m] [(m, ob 7 [.int (zz ↑np), .ref mP, .ref mW, .int (zz ↑nr), .ref mR, .ref mB, .ref mS, .int (zz ↑ac), .ref mA, .int (zz ↑ke), .ref mK, .int (zz ↑se), .ref mE, .ref mT, .int (zz ↑tl), .int (zz ↑at_), .ref mD, .int (zz ↑rp), .ref nP, .ref nW, .int (zz ↑rr), .ref nR, .ref nB, .ref mN, .ref mO, .ref mQ, .int (zz dp), .ref mX]), (mR, aI E 12 ro), (mN, aI E 7 nw), (mS, aI E 7 st)] (fun v w1 => v = some (.int (zz (-2))) ∧ ∃ nw2 : Nat → Int, w1 = [(m, ob 7 [.int (zz ↑np), .ref mP, .ref mW, .int (zz ↑nr), .ref mR, .ref mB, .ref mS, .int (zz ↑ac), .ref mA, .int (zz ↑ke), .ref mK, .int (zz ↑se), .ref mE, .ref mT, .int (zz ↑tl), .int (zz ↑at_), .ref mD, .int (zz ↑rp), .ref nP, .ref nW, .int (zz ↑rr), .ref nR, .ref nB, .ref mN, .ref mO, .ref mQ, .int (zz dp), .ref mX]), (mR, aI E 12 ro), (mN, aI E 7 nw2), (mS, aI E 7 st)]) := by
  show RR E mX7_setDown (d + 2) 0 0 0 [(0, .ref m)] [] [(m, ob 7 [.int (zz ↑np), .ref mP, .ref mW, .int (zz ↑nr), .ref mR, .ref mB, .ref mS, .int (zz ↑ac), .ref mA, .int (zz ↑ke), .ref mK, .int (zz ↑se), .ref mE, .ref mT, .int (zz ↑tl), .int (zz ↑at_), .ref mD, .int (zz ↑rp), .ref nP, .ref nW, .int (zz ↑rr), .ref nR, .ref nB, .ref mN, .ref mO, .ref mQ, .int (zz dp), .ref mX]), (mR, aI E 12 ro), (mN, aI E 7 nw), (mS, aI E 7 st)] (fun v w1 => v = some (.int (zz (-2))) ∧ ∃ nw2 : Nat → Int, w1 = [(m, ob 7 [.int (zz ↑np), .ref mP, .ref mW, .int (zz ↑nr), .ref mR, .ref mB, .ref mS, .int (zz ↑ac), .ref mA, .int (zz ↑ke), .ref mK, .int (zz ↑se), .ref mE, .ref mT, .int (zz ↑tl), .int (zz ↑at_), .ref mD, .int (zz ↑rp), .ref nP, .ref nW, .int (zz ↑rr), .ref nR, .ref nB, .ref mN, .ref mO, .ref mQ, .int (zz dp), .ref mX]), (mR, aI E 12 ro), (mN, aI E 7 nw2), (mS, aI E 7 st)])
  have hp := hP.ok hpc
  have hr := hRo.ok hrc
  have hn := hpc.1
  have hr1 := hrc.1
  have hs := hA.ok ho hv
  obtain ⟨o0, o1, o2, o3, o5, o6⟩ := id ho
  obtain ⟨e0, e1, e2, e3, e4, e5, e6⟩ := hA.all
  have hlz : laM nr ro (cpI nw 0 st 0 7) = landF nr rx ry h := la_rel hRo (cp7 hA).six
  refine rr_aload_n 0 dX7_setDown_0 rfl ?_
  refine rr_aload_n 0 dX7_setDown_1 rfl ?_
  refine rr_get fX7_22 0 rfl rfl dX7_setDown_2 ?_
  have ke_1 : cpI nw 0 st 0 7 0 = st 0 := rfl
  have ke_2 : cpI nw 0 st 0 7 1 = st 1 := rfl
  have ke_3 : cpI nw 0 st 0 7 2 = st 2 := rfl
  have ke_4 : cpI nw 0 st 0 7 3 = st 3 := rfl
  have ke_5 : cpI nw 0 st 0 7 4 = st 4 := rfl
  have ke_6 : cpI nw 0 st 0 7 5 = st 5 := rfl
  have ke_7 : cpI nw 0 st 0 7 6 = st 6 := rfl
  have hA8 : AG 7 (cpI nw 0 st 0 7) (amF h) := cp7 hA
  have ho8 : hOK h := ho
  have hv8 : hV np h := hv
  have hm8 : mOK np (cpI nw 0 st 0 7) := hA8.ok ho8 hv8
  obtain ⟨ea8, eb8, ec8, ed8, ee8, ef8, eg8⟩ := hA8.all
  obtain ⟨na8, nb8, nc8, nd8, nf8, ng8⟩ := id hm8
  refine rr_callFv (ws2 := [(m, ob 7 [.int (zz ↑np), .ref mP, .ref mW, .int (zz ↑nr), .ref mR, .ref mB, .ref mS, .int (zz ↑ac), .ref mA, .int (zz ↑ke), .ref mK, .int (zz ↑se), .ref mE, .ref mT, .int (zz ↑tl), .int (zz ↑at_), .ref mD, .int (zz ↑rp), .ref nP, .ref nW, .int (zz ↑rr), .ref nR, .ref nB, .ref mN, .ref mO, .ref mQ, .int (zz dp), .ref mX]), (mR, aI E 12 ro), (mN, aI E 7 (cpI nw 0 st 0 7)), (mS, aI E 7 st)]) (wr := [(mR, aI E 12 ro)]) (call_V (q0 := 0) kX7_180 (c_from E (d + 0) m mP mW mR mB mS mA mK mE mT mD nP nW nR nB mN mO mQ mX np nr ac ke se tl at_ rp rr dp mS nw st) rfl rfl rfl rfl (by omega) (by decide) (Nat.le_of_ble_eq_true rfl) (Nat.le_of_ble_eq_true rfl) dX7_setDown_5) [0, 2, 3] [1] [1, 0, 2, 3] rfl rfl rfl rfl rfl rfl rfl ?_
  refine rr_aload_n 0 dX7_setDown_8 rfl ?_
  have hl9 : laM nr ro (cpI nw 0 st 0 7) = landF nr rx ry h := la_rel hRo (AG.six hA8)
  refine rr_callFi (ws2 := [(m, ob 7 [.int (zz ↑np), .ref mP, .ref mW, .int (zz ↑nr), .ref mR, .ref mB, .ref mS, .int (zz ↑ac), .ref mA, .int (zz ↑ke), .ref mK, .int (zz ↑se), .ref mE, .ref mT, .int (zz ↑tl), .int (zz ↑at_), .ref mD, .int (zz ↑rp), .ref nP, .ref nW, .int (zz ↑rr), .ref nR, .ref nB, .ref mN, .ref mO, .ref mQ, .int (zz dp), .ref mX]), (mR, aI E 12 ro), (mN, aI E 7 (cpI nw 0 st 0 7)), (mS, aI E 7 st)]) (wr := [(mS, aI E 7 st)]) (call_V (q0 := 0) kX7_196 (c_MhasLanded E (d + 0) m mP mW mR mB mS mA mK mE mT mD nP nW nR nB mN mO mQ mX np nr ac ke se tl at_ rp rr dp ro (cpI nw 0 st 0 7) hr hm8) rfl rfl rfl rfl (by omega) (by decide) (Nat.le_of_ble_eq_true rfl) (Nat.le_of_ble_eq_true rfl) dX7_setDown_9) [0, 1, 2] [3] [1, 2, 3, 0] rfl rfl rfl rfl rfl rfl rfl ?_
  refine rr_if_eqB 25 dX7_setDown_12 (by decide) (fun hq => ?_) (fun hq => ?_)
  · skip
    refine rr_bipush dX7_setDown_25 (by decide) ?_
    exact rr_iret dX7_setDown_27 rfl rfl ⟨rfl, _, rfl⟩
  · skip
    refine rr_aload_n 0 dX7_setDown_15 rfl ?_
    refine rr_get fX7_22 0 rfl rfl dX7_setDown_16 ?_
    refine rr_iconst dX7_setDown_19 ?_
    refine rr_iald 3 5 rfl rfl (by omega) (by omega) dX7_setDown_20 ?_
    refine rr_iconst dX7_setDown_21 ?_
    refine rr_icmp_eq 28 dX7_setDown_22 (by decide) (by omega) (by omega) (fun c_10 => ?_) (fun c_10 => ?_)
    · skip
      exfalso; rw [hlz] at hq; exact hc ⟨hq, by omega⟩
    · skip
      refine rr_bipush dX7_setDown_25 (by decide) ?_
      exact rr_iret dX7_setDown_27 rfl rfl ⟨rfl, _, rfl⟩
set_option maxRecDepth 100000 in
set_option maxHeartbeats 400000 in
theorem c_MsetDown_y (E : Ev) (d : Nat) (m mP mW mR mB mS mA mK mE mT mD nP nW nR nB mN mO mQ mX : Nat) (np nr ac ke se tl at_ rp rr : Nat) (dp : Int) (pg wn ro nw st kd lf qt wd rx ry h : Nat → Int) (hP : PL np kd lf qt wd pg wn) (hpc : pOK np kd lf qt wd) (hRo : RoL nr rx ry ro) (hrc : rOK nr rx ry) (hA : AG 7 st (amF h)) (ho : hOK h) (hv : hV np h) (was : Nat → Int) (hc : ac ≤ 8) (hl : landF nr rx ry h = true) (h2 : h 5 = 2) : SP E mX7_setDown (d + 2) 0 0 [.ref m] [(m, ob 7 [.int (zz ↑np), .ref mP, .ref mW, .int (zz ↑nr), .ref mR, .ref mB, .ref mS, .int (zz ↑ac), .ref mA, .int (zz ↑ke), .ref mK, .int (zz ↑se), .ref mE, .ref mT, .int (zz ↑tl), .int (zz ↑at_), .ref mD, .int (zz ↑rp), .ref nP, .ref nW, .int (zz ↑rr), .ref nR, .ref nB, .ref mN, .ref mO, .ref mQ, .int (zz dp), .ref mX]), (mR, aI E 12 ro), (mN, aI E 7 nw), (mS, aI E 7 st), (mA, aI E 56 was)] (fun v w1 => v = some (.int (zz 1)) ∧ ∃ nw2 st2 : Nat → Int, AG 7 st2 (amF (updI (updI (updI h 5 1) 2 1) 6 (-4))) ∧ w1 = [(m, ob 7 [.int (zz ↑np), .ref mP, .ref mW, .int (zz ↑nr), .ref mR, .ref mB, .ref mS, .int (zz (↑(putN ac))), .ref mA, .int (zz ↑ke), .ref mK, .int (zz ↑se), .ref mE, .ref mT, .int (zz ↑tl), .int (zz ↑at_), .ref mD, .int (zz ↑rp), .ref nP, .ref nW, .int (zz ↑rr), .ref nR, .ref nB, .ref mN, .ref mO, .ref mQ, .int (zz dp), .ref mX]), (mR, aI E 12 ro), (mN, aI E 7 nw2), (mS, aI E 7 st2), (mA, aI E 56 (rmM was ac st))]) := by
  show RR E mX7_setDown (d + 2) 0 0 0 [(0, .ref m)] [] [(m, ob 7 [.int (zz ↑np), .ref mP, .ref mW, .int (zz ↑nr), .ref mR, .ref mB, .ref mS, .int (zz ↑ac), .ref mA, .int (zz ↑ke), .ref mK, .int (zz ↑se), .ref mE, .ref mT, .int (zz ↑tl), .int (zz ↑at_), .ref mD, .int (zz ↑rp), .ref nP, .ref nW, .int (zz ↑rr), .ref nR, .ref nB, .ref mN, .ref mO, .ref mQ, .int (zz dp), .ref mX]), (mR, aI E 12 ro), (mN, aI E 7 nw), (mS, aI E 7 st), (mA, aI E 56 was)] (fun v w1 => v = some (.int (zz 1)) ∧ ∃ nw2 st2 : Nat → Int, AG 7 st2 (amF (updI (updI (updI h 5 1) 2 1) 6 (-4))) ∧ w1 = [(m, ob 7 [.int (zz ↑np), .ref mP, .ref mW, .int (zz ↑nr), .ref mR, .ref mB, .ref mS, .int (zz (↑(putN ac))), .ref mA, .int (zz ↑ke), .ref mK, .int (zz ↑se), .ref mE, .ref mT, .int (zz ↑tl), .int (zz ↑at_), .ref mD, .int (zz ↑rp), .ref nP, .ref nW, .int (zz ↑rr), .ref nR, .ref nB, .ref mN, .ref mO, .ref mQ, .int (zz dp), .ref mX]), (mR, aI E 12 ro), (mN, aI E 7 nw2), (mS, aI E 7 st2), (mA, aI E 56 (rmM was ac st))])
  have hp := hP.ok hpc
  have hr := hRo.ok hrc
  have hn := hpc.1
  have hr1 := hrc.1
  have hs := hA.ok ho hv
  obtain ⟨o0, o1, o2, o3, o5, o6⟩ := id ho
  obtain ⟨e0, e1, e2, e3, e4, e5, e6⟩ := hA.all
  have hlz : laM nr ro (cpI nw 0 st 0 7) = landF nr rx ry h := la_rel hRo (cp7 hA).six
  refine rr_aload_n 0 dX7_setDown_0 rfl ?_
  refine rr_aload_n 0 dX7_setDown_1 rfl ?_
  refine rr_get fX7_22 0 rfl rfl dX7_setDown_2 ?_
  have ke_1 : cpI nw 0 st 0 7 0 = st 0 := rfl
  have ke_2 : cpI nw 0 st 0 7 1 = st 1 := rfl
  have ke_3 : cpI nw 0 st 0 7 2 = st 2 := rfl
  have ke_4 : cpI nw 0 st 0 7 3 = st 3 := rfl
  have ke_5 : cpI nw 0 st 0 7 4 = st 4 := rfl
  have ke_6 : cpI nw 0 st 0 7 5 = st 5 := rfl
  have ke_7 : cpI nw 0 st 0 7 6 = st 6 := rfl
  have hA8 : AG 7 (cpI nw 0 st 0 7) (amF h) := cp7 hA
  have ho8 : hOK h := ho
  have hv8 : hV np h := hv
  have hm8 : mOK np (cpI nw 0 st 0 7) := hA8.ok ho8 hv8
  obtain ⟨ea8, eb8, ec8, ed8, ee8, ef8, eg8⟩ := hA8.all
  obtain ⟨na8, nb8, nc8, nd8, nf8, ng8⟩ := id hm8
  refine rr_callFv (ws2 := [(m, ob 7 [.int (zz ↑np), .ref mP, .ref mW, .int (zz ↑nr), .ref mR, .ref mB, .ref mS, .int (zz ↑ac), .ref mA, .int (zz ↑ke), .ref mK, .int (zz ↑se), .ref mE, .ref mT, .int (zz ↑tl), .int (zz ↑at_), .ref mD, .int (zz ↑rp), .ref nP, .ref nW, .int (zz ↑rr), .ref nR, .ref nB, .ref mN, .ref mO, .ref mQ, .int (zz dp), .ref mX]), (mR, aI E 12 ro), (mN, aI E 7 (cpI nw 0 st 0 7)), (mS, aI E 7 st), (mA, aI E 56 was)]) (wr := [(mR, aI E 12 ro), (mA, aI E 56 was)]) (call_V (q0 := 0) kX7_180 (c_from E (d + 0) m mP mW mR mB mS mA mK mE mT mD nP nW nR nB mN mO mQ mX np nr ac ke se tl at_ rp rr dp mS nw st) rfl rfl rfl rfl (by omega) (by decide) (Nat.le_of_ble_eq_true rfl) (Nat.le_of_ble_eq_true rfl) dX7_setDown_5) [0, 2, 3] [1, 4] [2, 0, 3, 4, 1] rfl rfl rfl rfl rfl rfl rfl ?_
  refine rr_aload_n 0 dX7_setDown_8 rfl ?_
  have hl9 : laM nr ro (cpI nw 0 st 0 7) = landF nr rx ry h := la_rel hRo (AG.six hA8)
  refine rr_callFi (ws2 := [(m, ob 7 [.int (zz ↑np), .ref mP, .ref mW, .int (zz ↑nr), .ref mR, .ref mB, .ref mS, .int (zz ↑ac), .ref mA, .int (zz ↑ke), .ref mK, .int (zz ↑se), .ref mE, .ref mT, .int (zz ↑tl), .int (zz ↑at_), .ref mD, .int (zz ↑rp), .ref nP, .ref nW, .int (zz ↑rr), .ref nR, .ref nB, .ref mN, .ref mO, .ref mQ, .int (zz dp), .ref mX]), (mR, aI E 12 ro), (mN, aI E 7 (cpI nw 0 st 0 7)), (mS, aI E 7 st), (mA, aI E 56 was)]) (wr := [(mS, aI E 7 st), (mA, aI E 56 was)]) (call_V (q0 := 0) kX7_196 (c_MhasLanded E (d + 0) m mP mW mR mB mS mA mK mE mT mD nP nW nR nB mN mO mQ mX np nr ac ke se tl at_ rp rr dp ro (cpI nw 0 st 0 7) hr hm8) rfl rfl rfl rfl (by omega) (by decide) (Nat.le_of_ble_eq_true rfl) (Nat.le_of_ble_eq_true rfl) dX7_setDown_9) [0, 1, 2] [3, 4] [2, 3, 4, 0, 1] rfl rfl rfl rfl rfl rfl rfl ?_
  refine rr_if_eqB 25 dX7_setDown_12 (by decide) (fun hq => ?_) (fun hq => ?_)
  · skip
    exfalso; rw [hlz, hl] at hq; exact absurd hq (by decide)
  · skip
    refine rr_aload_n 0 dX7_setDown_15 rfl ?_
    refine rr_get fX7_22 0 rfl rfl dX7_setDown_16 ?_
    refine rr_iconst dX7_setDown_19 ?_
    refine rr_iald 3 5 rfl rfl (by omega) (by omega) dX7_setDown_20 ?_
    refine rr_iconst dX7_setDown_21 ?_
    refine rr_icmp_eq 28 dX7_setDown_22 (by decide) (by omega) (by omega) (fun c_10 => ?_) (fun c_10 => ?_)
    · skip
      refine rr_aload_n 0 dX7_setDown_28 rfl ?_
      refine rr_callFv (ws2 := [(m, ob 7 [.int (zz ↑np), .ref mP, .ref mW, .int (zz ↑nr), .ref mR, .ref mB, .ref mS, .int (zz (↑(putN ac))), .ref mA, .int (zz ↑ke), .ref mK, .int (zz ↑se), .ref mE, .ref mT, .int (zz ↑tl), .int (zz ↑at_), .ref mD, .int (zz ↑rp), .ref nP, .ref nW, .int (zz ↑rr), .ref nR, .ref nB, .ref mN, .ref mO, .ref mQ, .int (zz dp), .ref mX]), (mR, aI E 12 ro), (mN, aI E 7 (cpI nw 0 st 0 7)), (mS, aI E 7 st), (mA, aI E 56 (rmM was ac st))]) (wr := [(mR, aI E 12 ro), (mN, aI E 7 (cpI nw 0 st 0 7))]) (call_V (q0 := 0) kX7_187 (c_remembers E (d + 0) m mP mW mR mB mS mA mK mE mT mD nP nW nR nB mN mO mQ mX np nr ac ke se tl at_ rp rr dp was st (by omega)) rfl rfl rfl rfl (by omega) (by decide) (Nat.le_of_ble_eq_true rfl) (Nat.le_of_ble_eq_true rfl) dX7_setDown_29) [0, 4, 3] [1, 2] [2, 0, 1, 4, 3] rfl rfl rfl rfl rfl rfl rfl ?_
      refine rr_aload_n 0 dX7_setDown_32 rfl ?_
      refine rr_get fX7_22 0 rfl rfl dX7_setDown_33 ?_
      refine rr_iconst dX7_setDown_36 ?_
      refine rr_iconst dX7_setDown_37 ?_
      refine rr_iast (ws2 := [(m, ob 7 [.int (zz ↑np), .ref mP, .ref mW, .int (zz ↑nr), .ref mR, .ref mB, .ref mS, .int (zz (↑(putN ac))), .ref mA, .int (zz ↑ke), .ref mK, .int (zz ↑se), .ref mE, .ref mT, .int (zz ↑tl), .int (zz ↑at_), .ref mD, .int (zz ↑rp), .ref nP, .ref nW, .int (zz ↑rr), .ref nR, .ref nB, .ref mN, .ref mO, .ref mQ, .int (zz dp), .ref mX]), (mR, aI E 12 ro), (mN, aI E 7 (cpI nw 0 st 0 7)), (mS, aI E 7 (updI st 5 1)), (mA, aI E 56 (rmM was ac st))]) 3 5 rfl rfl (by omega) (by omega) rfl dX7_setDown_38 ?_
      refine rr_aload_n 0 dX7_setDown_39 rfl ?_
      refine rr_get fX7_22 0 rfl rfl dX7_setDown_40 ?_
      refine rr_iconst dX7_setDown_43 ?_
      refine rr_iconst dX7_setDown_44 ?_
      refine rr_iast (ws2 := [(m, ob 7 [.int (zz ↑np), .ref mP, .ref mW, .int (zz ↑nr), .ref mR, .ref mB, .ref mS, .int (zz (↑(putN ac))), .ref mA, .int (zz ↑ke), .ref mK, .int (zz ↑se), .ref mE, .ref mT, .int (zz ↑tl), .int (zz ↑at_), .ref mD, .int (zz ↑rp), .ref nP, .ref nW, .int (zz ↑rr), .ref nR, .ref nB, .ref mN, .ref mO, .ref mQ, .int (zz dp), .ref mX]), (mR, aI E 12 ro), (mN, aI E 7 (cpI nw 0 st 0 7)), (mS, aI E 7 (updI (updI st 5 1) 2 1)), (mA, aI E 56 (rmM was ac st))]) 3 2 rfl rfl (by omega) (by omega) rfl dX7_setDown_45 ?_
      refine rr_aload_n 0 dX7_setDown_46 rfl ?_
      refine rr_get fX7_22 0 rfl rfl dX7_setDown_47 ?_
      refine rr_bipush dX7_setDown_50 (by decide) ?_
      refine rr_iconst dX7_setDown_52 ?_
      refine rr_iast (ws2 := [(m, ob 7 [.int (zz ↑np), .ref mP, .ref mW, .int (zz ↑nr), .ref mR, .ref mB, .ref mS, .int (zz (↑(putN ac))), .ref mA, .int (zz ↑ke), .ref mK, .int (zz ↑se), .ref mE, .ref mT, .int (zz ↑tl), .int (zz ↑at_), .ref mD, .int (zz ↑rp), .ref nP, .ref nW, .int (zz ↑rr), .ref nR, .ref nB, .ref mN, .ref mO, .ref mQ, .int (zz dp), .ref mX]), (mR, aI E 12 ro), (mN, aI E 7 (cpI nw 0 st 0 7)), (mS, aI E 7 (updI (updI (updI st 5 1) 2 1) 6 (-1))), (mA, aI E 56 (rmM was ac st))]) 3 6 rfl rfl (by omega) (by omega) rfl dX7_setDown_53 ?_
      refine rr_iconst dX7_setDown_54 ?_
      exact rr_iret dX7_setDown_55 rfl rfl ⟨congrArg (fun z => some (Value.int (zz z))) (by rfl), cpI nw 0 st 0 7, (updI (updI (updI st 5 1) 2 1) 6 (-1)), AG.of7 e0 e1 rfl e3 e4 rfl rfl, rfl⟩
    · skip
      exfalso; omega
set_option maxRecDepth 100000 in
set_option maxHeartbeats 400000 in
theorem c_Mundo_no (E : Ev) (d : Nat) (m mP mW mR mB mS mA mK mE mT mD nP nW nR nB mN mO mQ mX : Nat) (np nr ac ke se tl at_ rp rr : Nat) (dp : Int) (hc : ac = 0) : SP E mX7_undo (d + 1) 0 0 [.ref m] [(m, ob 7 [.int (zz ↑np), .ref mP, .ref mW, .int (zz ↑nr), .ref mR, .ref mB, .ref mS, .int (zz ↑ac), .ref mA, .int (zz ↑ke), .ref mK, .int (zz ↑se), .ref mE, .ref mT, .int (zz ↑tl), .int (zz ↑at_), .ref mD, .int (zz ↑rp), .ref nP, .ref nW, .int (zz ↑rr), .ref nR, .ref nB, .ref mN, .ref mO, .ref mQ, .int (zz dp), .ref mX])] (FP (some (.int (zz (-2)))) [(m, ob 7 [.int (zz ↑np), .ref mP, .ref mW, .int (zz ↑nr), .ref mR, .ref mB, .ref mS, .int (zz ↑ac), .ref mA, .int (zz ↑ke), .ref mK, .int (zz ↑se), .ref mE, .ref mT, .int (zz ↑tl), .int (zz ↑at_), .ref mD, .int (zz ↑rp), .ref nP, .ref nW, .int (zz ↑rr), .ref nR, .ref nB, .ref mN, .ref mO, .ref mQ, .int (zz dp), .ref mX])]) := by
  show RR E mX7_undo (d + 1) 0 0 0 [(0, .ref m)] [] [(m, ob 7 [.int (zz ↑np), .ref mP, .ref mW, .int (zz ↑nr), .ref mR, .ref mB, .ref mS, .int (zz ↑ac), .ref mA, .int (zz ↑ke), .ref mK, .int (zz ↑se), .ref mE, .ref mT, .int (zz ↑tl), .int (zz ↑at_), .ref mD, .int (zz ↑rp), .ref nP, .ref nW, .int (zz ↑rr), .ref nR, .ref nB, .ref mN, .ref mO, .ref mQ, .int (zz dp), .ref mX])] (FP (some (.int (zz (-2)))) [(m, ob 7 [.int (zz ↑np), .ref mP, .ref mW, .int (zz ↑nr), .ref mR, .ref mB, .ref mS, .int (zz ↑ac), .ref mA, .int (zz ↑ke), .ref mK, .int (zz ↑se), .ref mE, .ref mT, .int (zz ↑tl), .int (zz ↑at_), .ref mD, .int (zz ↑rp), .ref nP, .ref nW, .int (zz ↑rr), .ref nR, .ref nB, .ref mN, .ref mO, .ref mQ, .int (zz dp), .ref mX])])
  refine rr_aload_n 0 dX7_undo_0 rfl ?_
  refine rr_get fX7_142 0 rfl rfl dX7_undo_1 ?_
  refine rr_if_ne 10 dX7_undo_4 (by decide) (by omega) (fun c_1 => ?_) (fun c_1 => ?_)
  · skip
    exfalso; omega
  · skip
    refine rr_bipush dX7_undo_7 (by decide) ?_
    exact rr_iret dX7_undo_9 rfl rfl ⟨rfl, rfl⟩
set_option maxRecDepth 100000 in
set_option maxHeartbeats 400000 in
theorem c_Mundo_y (E : Ev) (d : Nat) (m mP mW mR mB mS mA mK mE mT mD nP nW nR nB mN mO mQ mX : Nat) (np nr ac ke se tl at_ rp rr : Nat) (dp : Int) (was st : Nat → Int) (k : Nat) (hk : k < 8) (hac : ac = k + 1) : SP E mX7_undo (d + 1) 0 0 [.ref m] [(m, ob 7 [.int (zz ↑np), .ref mP, .ref mW, .int (zz ↑nr), .ref mR, .ref mB, .ref mS, .int (zz ↑ac), .ref mA, .int (zz ↑ke), .ref mK, .int (zz ↑se), .ref mE, .ref mT, .int (zz ↑tl), .int (zz ↑at_), .ref mD, .int (zz ↑rp), .ref nP, .ref nW, .int (zz ↑rr), .ref nR, .ref nB, .ref mN, .ref mO, .ref mQ, .int (zz dp), .ref mX]), (mS, aI E 7 st), (mA, aI E 56 was)] (FP (some (.int (zz ↑k))) [(m, ob 7 [.int (zz ↑np), .ref mP, .ref mW, .int (zz ↑nr), .ref mR, .ref mB, .ref mS, .int (zz ↑k), .ref mA, .int (zz ↑ke), .ref mK, .int (zz ↑se), .ref mE, .ref mT, .int (zz ↑tl), .int (zz ↑at_), .ref mD, .int (zz ↑rp), .ref nP, .ref nW, .int (zz ↑rr), .ref nR, .ref nB, .ref mN, .ref mO, .ref mQ, .int (zz dp), .ref mX]), (mS, aI E 7 (cpI st 0 was (7 * k) 7)), (mA, aI E 56 was)]) := by
  show RR E mX7_undo (d + 1) 0 0 0 [(0, .ref m)] [] [(m, ob 7 [.int (zz ↑np), .ref mP, .ref mW, .int (zz ↑nr), .ref mR, .ref mB, .ref mS, .int (zz ↑ac), .ref mA, .int (zz ↑ke), .ref mK, .int (zz ↑se), .ref mE, .ref mT, .int (zz ↑tl), .int (zz ↑at_), .ref mD, .int (zz ↑rp), .ref nP, .ref nW, .int (zz ↑rr), .ref nR, .ref nB, .ref mN, .ref mO, .ref mQ, .int (zz dp), .ref mX]), (mS, aI E 7 st), (mA, aI E 56 was)] (FP (some (.int (zz ↑k))) [(m, ob 7 [.int (zz ↑np), .ref mP, .ref mW, .int (zz ↑nr), .ref mR, .ref mB, .ref mS, .int (zz ↑k), .ref mA, .int (zz ↑ke), .ref mK, .int (zz ↑se), .ref mE, .ref mT, .int (zz ↑tl), .int (zz ↑at_), .ref mD, .int (zz ↑rp), .ref nP, .ref nW, .int (zz ↑rr), .ref nR, .ref nB, .ref mN, .ref mO, .ref mQ, .int (zz dp), .ref mX]), (mS, aI E 7 (cpI st 0 was (7 * k) 7)), (mA, aI E 56 was)])
  refine rr_aload_n 0 dX7_undo_0 rfl ?_
  refine rr_get fX7_142 0 rfl rfl dX7_undo_1 ?_
  refine rr_if_ne 10 dX7_undo_4 (by decide) (by omega) (fun c_1 => ?_) (fun c_1 => ?_)
  · skip
    refine rr_aload_n 0 dX7_undo_10 rfl ?_
    refine rr_dup dX7_undo_11 rfl ?_
    refine rr_get fX7_142 0 rfl rfl dX7_undo_12 ?_
    refine rr_iconst dX7_undo_15 ?_
    refine rr_isub dX7_undo_16 ?_
    refine rr_top (b := ↑k) (by omega) ?_
    refine rr_put (ws2 := [(m, ob 7 [.int (zz ↑np), .ref mP, .ref mW, .int (zz ↑nr), .ref mR, .ref mB, .ref mS, .int (zz ↑k), .ref mA, .int (zz ↑ke), .ref mK, .int (zz ↑se), .ref mE, .ref mT, .int (zz ↑tl), .int (zz ↑at_), .ref mD, .int (zz ↑rp), .ref nP, .ref nW, .int (zz ↑rr), .ref nR, .ref nB, .ref mN, .ref mO, .ref mQ, .int (zz dp), .ref mX]), (mS, aI E 7 st), (mA, aI E 56 was)]) fX7_142 0 rfl rfl rfl (Nat.le_of_ble_eq_true rfl) rfl dX7_undo_17 ?_
    refine rr_aload_n 0 dX7_undo_20 rfl ?_
    refine rr_get fX7_22 0 rfl rfl dX7_undo_21 ?_
    refine rr_iconst dX7_undo_24 ?_
    refine rr_aload_n 0 dX7_undo_25 rfl ?_
    refine rr_get fX7_25 0 rfl rfl dX7_undo_26 ?_
    refine rr_bipush dX7_undo_29 (by decide) ?_
    refine rr_aload_n 0 dX7_undo_31 rfl ?_
    refine rr_get fX7_142 0 rfl rfl dX7_undo_32 ?_
    refine rr_imul dX7_undo_35 ?_
    refine rr_top (b := ↑(7 * k)) (by omega) ?_
    refine rr_bipush dX7_undo_36 (by decide) ?_
    refine rr_callFv (ws2 := [(m, ob 7 [.int (zz ↑np), .ref mP, .ref mW, .int (zz ↑nr), .ref mR, .ref mB, .ref mS, .int (zz ↑k), .ref mA, .int (zz ↑ke), .ref mK, .int (zz ↑se), .ref mE, .ref mT, .int (zz ↑tl), .int (zz ↑at_), .ref mD, .int (zz ↑rp), .ref nP, .ref nW, .int (zz ↑rr), .ref nR, .ref nB, .ref mN, .ref mO, .ref mQ, .int (zz dp), .ref mX]), (mS, aI E 7 (cpI st 0 was (7 * k) 7)), (mA, aI E 56 was)]) (wr := [(m, ob 7 [.int (zz ↑np), .ref mP, .ref mW, .int (zz ↑nr), .ref mR, .ref mB, .ref mS, .int (zz ↑k), .ref mA, .int (zz ↑ke), .ref mK, .int (zz ↑se), .ref mE, .ref mT, .int (zz ↑tl), .int (zz ↑at_), .ref mD, .int (zz ↑rp), .ref nP, .ref nW, .int (zz ↑rr), .ref nR, .ref nB, .ref mN, .ref mO, .ref mQ, .int (zz dp), .ref mX])]) (call_S kX7_138 (c_copies E (d + 0) mS mA 7 56 0 (7 * k) 7 st was (by omega) (by omega) (by omega) (by omega)) rfl (by omega) (by decide) (Nat.le_of_ble_eq_true rfl) (Nat.le_of_ble_eq_true rfl) dX7_undo_38) [1, 2] [0] [0, 1, 2] rfl rfl rfl rfl rfl rfl rfl ?_
    refine rr_aload_n 0 dX7_undo_41 rfl ?_
    refine rr_get fX7_142 0 rfl rfl dX7_undo_42 ?_
    exact rr_iret dX7_undo_45 rfl rfl ⟨rfl, rfl⟩
  · skip
    exfalso; omega
set_option maxRecDepth 100000 in
set_option maxHeartbeats 400000 in
theorem c_Mnow (E : Ev) (d : Nat) (m mP mW mR mB mS mA mK mE mT mD nP nW nR nB mN mO mQ mX : Nat) (np nr ac ke se tl at_ rp rr : Nat) (dp : Int) (pg wn ro nw st kd lf qt wd rx ry h : Nat → Int) (hP : PL np kd lf qt wd pg wn) (hpc : pOK np kd lf qt wd) (hRo : RoL nr rx ry ro) (hrc : rOK nr rx ry) (hA : AG 7 st (amF h)) (ho : hOK h) (hv : hV np h) (w : Int) (gw : -2147483648 ≤ w ∧ w < 2147483648) : SP E mX7_now (d + 2) 0 0 [.ref m, .int (zz w)] [(m, ob 7 [.int (zz ↑np), .ref mP, .ref mW, .int (zz ↑nr), .ref mR, .ref mB, .ref mS, .int (zz ↑ac), .ref mA, .int (zz ↑ke), .ref mK, .int (zz ↑se), .ref mE, .ref mT, .int (zz ↑tl), .int (zz ↑at_), .ref mD, .int (zz ↑rp), .ref nP, .ref nW, .int (zz ↑rr), .ref nR, .ref nB, .ref mN, .ref mO, .ref mQ, .int (zz dp), .ref mX]), (mR, aI E 12 ro), (mN, aI E 7 nw), (mS, aI E 7 st)] (fun v w1 => v = some (.int (zz (nowA nr rx ry h w))) ∧ ∃ nw2 : Nat → Int, w1 = [(m, ob 7 [.int (zz ↑np), .ref mP, .ref mW, .int (zz ↑nr), .ref mR, .ref mB, .ref mS, .int (zz ↑ac), .ref mA, .int (zz ↑ke), .ref mK, .int (zz ↑se), .ref mE, .ref mT, .int (zz ↑tl), .int (zz ↑at_), .ref mD, .int (zz ↑rp), .ref nP, .ref nW, .int (zz ↑rr), .ref nR, .ref nB, .ref mN, .ref mO, .ref mQ, .int (zz dp), .ref mX]), (mR, aI E 12 ro), (mN, aI E 7 nw2), (mS, aI E 7 st)]) := by
  show RR E mX7_now (d + 2) 0 0 0 [(0, .ref m), (1, .int (zz w))] [] [(m, ob 7 [.int (zz ↑np), .ref mP, .ref mW, .int (zz ↑nr), .ref mR, .ref mB, .ref mS, .int (zz ↑ac), .ref mA, .int (zz ↑ke), .ref mK, .int (zz ↑se), .ref mE, .ref mT, .int (zz ↑tl), .int (zz ↑at_), .ref mD, .int (zz ↑rp), .ref nP, .ref nW, .int (zz ↑rr), .ref nR, .ref nB, .ref mN, .ref mO, .ref mQ, .int (zz dp), .ref mX]), (mR, aI E 12 ro), (mN, aI E 7 nw), (mS, aI E 7 st)] (fun v w1 => v = some (.int (zz (nowA nr rx ry h w))) ∧ ∃ nw2 : Nat → Int, w1 = [(m, ob 7 [.int (zz ↑np), .ref mP, .ref mW, .int (zz ↑nr), .ref mR, .ref mB, .ref mS, .int (zz ↑ac), .ref mA, .int (zz ↑ke), .ref mK, .int (zz ↑se), .ref mE, .ref mT, .int (zz ↑tl), .int (zz ↑at_), .ref mD, .int (zz ↑rp), .ref nP, .ref nW, .int (zz ↑rr), .ref nR, .ref nB, .ref mN, .ref mO, .ref mQ, .int (zz dp), .ref mX]), (mR, aI E 12 ro), (mN, aI E 7 nw2), (mS, aI E 7 st)])
  have hp := hP.ok hpc
  have hr := hRo.ok hrc
  have hn := hpc.1
  have hr1 := hrc.1
  have hs := hA.ok ho hv
  obtain ⟨o0, o1, o2, o3, o5, o6⟩ := id ho
  obtain ⟨e0, e1, e2, e3, e4, e5, e6⟩ := hA.all
  have hlz : laM nr ro (cpI nw 0 st 0 7) = landF nr rx ry h := la_rel hRo (cp7 hA).six
  refine rr_iload_n 1 dX7_now_0 rfl ?_
  refine rr_iconst dX7_now_1 ?_
  refine rr_bipush dX7_now_2 (by decide) ?_
  refine rr_callFi (ws2 := [(m, ob 7 [.int (zz ↑np), .ref mP, .ref mW, .int (zz ↑nr), .ref mR, .ref mB, .ref mS, .int (zz ↑ac), .ref mA, .int (zz ↑ke), .ref mK, .int (zz ↑se), .ref mE, .ref mT, .int (zz ↑tl), .int (zz ↑at_), .ref mD, .int (zz ↑rp), .ref nP, .ref nW, .int (zz ↑rr), .ref nR, .ref nB, .ref mN, .ref mO, .ref mQ, .int (zz dp), .ref mX]), (mR, aI E 12 ro), (mN, aI E 7 nw), (mS, aI E 7 st)]) (wr := [(m, ob 7 [.int (zz ↑np), .ref mP, .ref mW, .int (zz ↑nr), .ref mR, .ref mB, .ref mS, .int (zz ↑ac), .ref mA, .int (zz ↑ke), .ref mK, .int (zz ↑se), .ref mE, .ref mT, .int (zz ↑tl), .int (zz ↑at_), .ref mD, .int (zz ↑rp), .ref nP, .ref nW, .int (zz ↑rr), .ref nR, .ref nB, .ref mN, .ref mO, .ref mQ, .int (zz dp), .ref mX]), (mR, aI E 12 ro), (mN, aI E 7 nw), (mS, aI E 7 st)]) (call_S kX7_88 (c_in E (d + 1) w 0 8 (by omega) (by omega) (by omega)) rfl (by omega) (by decide) (Nat.le_of_ble_eq_true rfl) (Nat.le_of_ble_eq_true rfl) dX7_now_4) [] [0, 1, 2, 3] [0, 1, 2, 3] rfl rfl rfl rfl rfl rfl rfl ?_
  refine rr_if_neD 12 dX7_now_7 (by decide) (fun c_1 => ?_) (fun c_1 => ?_)
  · skip
    refine rr_aload_n 0 dX7_now_12 rfl ?_
    refine rr_aload_n 0 dX7_now_13 rfl ?_
    refine rr_get fX7_22 0 rfl rfl dX7_now_14 ?_
    have ke_2 : cpI nw 0 st 0 7 0 = st 0 := rfl
    have ke_3 : cpI nw 0 st 0 7 1 = st 1 := rfl
    have ke_4 : cpI nw 0 st 0 7 2 = st 2 := rfl
    have ke_5 : cpI nw 0 st 0 7 3 = st 3 := rfl
    have ke_6 : cpI nw 0 st 0 7 4 = st 4 := rfl
    have ke_7 : cpI nw 0 st 0 7 5 = st 5 := rfl
    have ke_8 : cpI nw 0 st 0 7 6 = st 6 := rfl
    have hA9 : AG 7 (cpI nw 0 st 0 7) (amF h) := cp7 hA
    have ho9 : hOK h := ho
    have hv9 : hV np h := hv
    have hm9 : mOK np (cpI nw 0 st 0 7) := hA9.ok ho9 hv9
    obtain ⟨ea9, eb9, ec9, ed9, ee9, ef9, eg9⟩ := hA9.all
    obtain ⟨na9, nb9, nc9, nd9, nf9, ng9⟩ := id hm9
    refine rr_callFv (ws2 := [(m, ob 7 [.int (zz ↑np), .ref mP, .ref mW, .int (zz ↑nr), .ref mR, .ref mB, .ref mS, .int (zz ↑ac), .ref mA, .int (zz ↑ke), .ref mK, .int (zz ↑se), .ref mE, .ref mT, .int (zz ↑tl), .int (zz ↑at_), .ref mD, .int (zz ↑rp), .ref nP, .ref nW, .int (zz ↑rr), .ref nR, .ref nB, .ref mN, .ref mO, .ref mQ, .int (zz dp), .ref mX]), (mR, aI E 12 ro), (mN, aI E 7 (cpI nw 0 st 0 7)), (mS, aI E 7 st)]) (wr := [(mR, aI E 12 ro)]) (call_V (q0 := 0) kX7_180 (c_from E (d + 0) m mP mW mR mB mS mA mK mE mT mD nP nW nR nB mN mO mQ mX np nr ac ke se tl at_ rp rr dp mS nw st) rfl rfl rfl rfl (by omega) (by decide) (Nat.le_of_ble_eq_true rfl) (Nat.le_of_ble_eq_true rfl) dX7_now_17) [0, 2, 3] [1] [1, 0, 2, 3] rfl rfl rfl rfl rfl rfl rfl ?_
    refine rr_iload_n 1 dX7_now_20 rfl ?_
    refine rr_bipush dX7_now_21 (by decide) ?_
    refine rr_icmp_ge 33 dX7_now_23 (by decide) (by omega) (by omega) (fun c_10 => ?_) (fun c_10 => ?_)
    · skip
      refine rr_iload_n 1 dX7_now_33 rfl ?_
      refine rr_bipush dX7_now_34 (by decide) ?_
      refine rr_icmp_ne 54 dX7_now_36 (by decide) (by omega) (by omega) (fun c_11 => ?_) (fun c_11 => ?_)
      · skip
        refine rr_iload_n 1 dX7_now_54 rfl ?_
        refine rr_bipush dX7_now_55 (by decide) ?_
        refine rr_icmp_ne 82 dX7_now_57 (by decide) (by omega) (by omega) (fun c_12 => ?_) (fun c_12 => ?_)
        · skip
          refine rr_aload_n 0 dX7_now_82 rfl ?_
          refine rr_get fX7_22 0 rfl rfl dX7_now_83 ?_
          refine rr_bipush dX7_now_86 (by decide) ?_
          refine rr_iald 3 6 rfl rfl (by omega) (by omega) dX7_now_88 ?_
          refine rr_if_ge 97 dX7_now_89 (by decide) (by omega) (fun c_13 => ?_) (fun c_13 => ?_)
          · skip
            refine rr_aload_n 0 dX7_now_97 rfl ?_
            refine rr_get fX7_22 0 rfl rfl dX7_now_98 ?_
            refine rr_bipush dX7_now_101 (by decide) ?_
            refine rr_iald 3 6 rfl rfl (by omega) (by omega) dX7_now_103 ?_
            exact rr_iret dX7_now_104 rfl rfl ⟨congrArg (fun z => some (Value.int (zz z))) (by first | (rw [nowA_6 (by omega), ← hlz]; simp_all [bI]; done) | (rw [nowA_7 (by omega), fall_land, ← hlz]; simp_all [bI]; done) | (rw [nowA_8 (by omega)]; unfold hV at hv; split at e6 <;> omega)), cpI nw 0 st 0 7, rfl⟩
          · skip
            refine rr_bipush dX7_now_92 (by decide) ?_
            refine rr_goto 104 dX7_now_94 (by decide) ?_
            exact rr_iret dX7_now_104 rfl rfl ⟨congrArg (fun z => some (Value.int (zz z))) (by first | (rw [nowA_6 (by omega), ← hlz]; simp_all [bI]; done) | (rw [nowA_7 (by omega), fall_land, ← hlz]; simp_all [bI]; done) | (rw [nowA_8 (by omega)]; unfold hV at hv; split at e6 <;> omega)), cpI nw 0 st 0 7, rfl⟩
        · skip
          refine rr_aload_n 0 dX7_now_60 rfl ?_
          refine rr_callFi (ws2 := [(m, ob 7 [.int (zz ↑np), .ref mP, .ref mW, .int (zz ↑nr), .ref mR, .ref mB, .ref mS, .int (zz ↑ac), .ref mA, .int (zz ↑ke), .ref mK, .int (zz ↑se), .ref mE, .ref mT, .int (zz ↑tl), .int (zz ↑at_), .ref mD, .int (zz ↑rp), .ref nP, .ref nW, .int (zz ↑rr), .ref nR, .ref nB, .ref mN, .ref mO, .ref mQ, .int (zz dp), .ref mX]), (mR, aI E 12 ro), (mN, aI E 7 (cpI nw 0 st 0 7)), (mS, aI E 7 st)]) (wr := [(mR, aI E 12 ro), (mS, aI E 7 st)]) (call_V (q0 := 0) kX7_151 (c_MisDown E (d + 1) m mP mW mR mB mS mA mK mE mT mD nP nW nR nB mN mO mQ mX np nr ac ke se tl at_ rp rr dp (cpI nw 0 st 0 7) (by omega)) rfl rfl rfl rfl (by omega) (by decide) (Nat.le_of_ble_eq_true rfl) (Nat.le_of_ble_eq_true rfl) dX7_now_61) [0, 2] [1, 3] [2, 0, 3, 1] rfl rfl rfl rfl rfl rfl rfl ?_
          refine rr_if_eqD 78 dX7_now_64 (by decide) (fun c_14 => ?_) (fun c_14 => ?_)
          · skip
            refine rr_iconst dX7_now_78 ?_
            refine rr_goto 104 dX7_now_79 (by decide) ?_
            exact rr_iret dX7_now_104 rfl rfl ⟨congrArg (fun z => some (Value.int (zz z))) (by first | (rw [nowA_6 (by omega), ← hlz]; simp_all [bI]; done) | (rw [nowA_7 (by omega), fall_land, ← hlz]; simp_all [bI]; done) | (rw [nowA_8 (by omega)]; unfold hV at hv; split at e6 <;> omega)), cpI nw 0 st 0 7, rfl⟩
          · skip
            refine rr_aload_n 0 dX7_now_67 rfl ?_
            have hl15 : laM nr ro (cpI nw 0 st 0 7) = landF nr rx ry h := la_rel hRo (AG.six hA9)
            refine rr_callFi (ws2 := [(m, ob 7 [.int (zz ↑np), .ref mP, .ref mW, .int (zz ↑nr), .ref mR, .ref mB, .ref mS, .int (zz ↑ac), .ref mA, .int (zz ↑ke), .ref mK, .int (zz ↑se), .ref mE, .ref mT, .int (zz ↑tl), .int (zz ↑at_), .ref mD, .int (zz ↑rp), .ref nP, .ref nW, .int (zz ↑rr), .ref nR, .ref nB, .ref mN, .ref mO, .ref mQ, .int (zz dp), .ref mX]), (mR, aI E 12 ro), (mN, aI E 7 (cpI nw 0 st 0 7)), (mS, aI E 7 st)]) (wr := [(mS, aI E 7 st)]) (call_V (q0 := 0) kX7_196 (c_MhasLanded E (d + 0) m mP mW mR mB mS mA mK mE mT mD nP nW nR nB mN mO mQ mX np nr ac ke se tl at_ rp rr dp ro (cpI nw 0 st 0 7) hr hm9) rfl rfl rfl rfl (by omega) (by decide) (Nat.le_of_ble_eq_true rfl) (Nat.le_of_ble_eq_true rfl) dX7_now_68) [0, 1, 2] [3] [1, 2, 3, 0] rfl rfl rfl rfl rfl rfl rfl ?_
            refine rr_if_neB 78 dX7_now_71 (by decide) (fun c_16 => ?_) (fun c_16 => ?_)
            · skip
              refine rr_iconst dX7_now_78 ?_
              refine rr_goto 104 dX7_now_79 (by decide) ?_
              exact rr_iret dX7_now_104 rfl rfl ⟨congrArg (fun z => some (Value.int (zz z))) (by first | (rw [nowA_6 (by omega), ← hlz]; simp_all [bI]; done) | (rw [nowA_7 (by omega), fall_land, ← hlz]; simp_all [bI]; done) | (rw [nowA_8 (by omega)]; unfold hV at hv; split at e6 <;> omega)), cpI nw 0 st 0 7, rfl⟩
            · skip
              refine rr_iconst dX7_now_74 ?_
              refine rr_goto 104 dX7_now_75 (by decide) ?_
              exact rr_iret dX7_now_104 rfl rfl ⟨congrArg (fun z => some (Value.int (zz z))) (by first | (rw [nowA_6 (by omega), ← hlz]; simp_all [bI]; done) | (rw [nowA_7 (by omega), fall_land, ← hlz]; simp_all [bI]; done) | (rw [nowA_8 (by omega)]; unfold hV at hv; split at e6 <;> omega)), cpI nw 0 st 0 7, rfl⟩
      · skip
        refine rr_aload_n 0 dX7_now_39 rfl ?_
        have hl17 : laM nr ro (cpI nw 0 st 0 7) = landF nr rx ry h := la_rel hRo (AG.six hA9)
        refine rr_callFi (ws2 := [(m, ob 7 [.int (zz ↑np), .ref mP, .ref mW, .int (zz ↑nr), .ref mR, .ref mB, .ref mS, .int (zz ↑ac), .ref mA, .int (zz ↑ke), .ref mK, .int (zz ↑se), .ref mE, .ref mT, .int (zz ↑tl), .int (zz ↑at_), .ref mD, .int (zz ↑rp), .ref nP, .ref nW, .int (zz ↑rr), .ref nR, .ref nB, .ref mN, .ref mO, .ref mQ, .int (zz dp), .ref mX]), (mR, aI E 12 ro), (mN, aI E 7 (cpI nw 0 st 0 7)), (mS, aI E 7 st)]) (wr := [(mS, aI E 7 st)]) (call_V (q0 := 0) kX7_196 (c_MhasLanded E (d + 0) m mP mW mR mB mS mA mK mE mT mD nP nW nR nB mN mO mQ mX np nr ac ke se tl at_ rp rr dp ro (cpI nw 0 st 0 7) hr hm9) rfl rfl rfl rfl (by omega) (by decide) (Nat.le_of_ble_eq_true rfl) (Nat.le_of_ble_eq_true rfl) dX7_now_40) [0, 1, 2] [3] [1, 2, 3, 0] rfl rfl rfl rfl rfl rfl rfl ?_
        refine rr_if_eqB 50 dX7_now_43 (by decide) (fun c_18 => ?_) (fun c_18 => ?_)
        · skip
          refine rr_iconst dX7_now_50 ?_
          refine rr_goto 104 dX7_now_51 (by decide) ?_
          exact rr_iret dX7_now_104 rfl rfl ⟨congrArg (fun z => some (Value.int (zz z))) (by first | (rw [nowA_6 (by omega), ← hlz]; simp_all [bI]; done) | (rw [nowA_7 (by omega), fall_land, ← hlz]; simp_all [bI]; done) | (rw [nowA_8 (by omega)]; unfold hV at hv; split at e6 <;> omega)), cpI nw 0 st 0 7, rfl⟩
        · skip
          refine rr_iconst dX7_now_46 ?_
          refine rr_goto 104 dX7_now_47 (by decide) ?_
          exact rr_iret dX7_now_104 rfl rfl ⟨congrArg (fun z => some (Value.int (zz z))) (by first | (rw [nowA_6 (by omega), ← hlz]; simp_all [bI]; done) | (rw [nowA_7 (by omega), fall_land, ← hlz]; simp_all [bI]; done) | (rw [nowA_8 (by omega)]; unfold hV at hv; split at e6 <;> omega)), cpI nw 0 st 0 7, rfl⟩
    · skip
      refine rr_aload_n 0 dX7_now_26 rfl ?_
      refine rr_get fX7_22 0 rfl rfl dX7_now_27 ?_
      refine rr_iload_n 1 dX7_now_30 rfl ?_
      refine rr_iald 3 w.toNat rfl (by omega) (by omega) (by omega) dX7_now_31 ?_
      exact rr_iret dX7_now_32 rfl rfl ⟨congrArg (fun z => some (Value.int (zz z))) (by exact (nowA_lo hA (by omega)).symm), cpI nw 0 st 0 7, rfl⟩
  · skip
    refine rr_iconst dX7_now_10 ?_
    exact rr_iret dX7_now_11 rfl rfl ⟨congrArg (fun z => some (Value.int (zz z))) (by rw [nowA_bad (by omega)]), nw, rfl⟩
