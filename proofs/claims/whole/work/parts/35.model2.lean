set_option maxRecDepth 100000 in
set_option maxHeartbeats 400000 in
theorem c_Mwrite_bad (E : Ev) (d : Nat) (m mP mW mR mB mS mA mK mE mT mD nP nW nR nB mN mO mQ mX : Nat) (np nr ac ke se tl at_ rp rr : Nat) (dp : Int) (l : Int) (gl : -2147483648 ≤ l ∧ l < 2147483648) (hl : ¬ (32 ≤ l ∧ l ≤ 126)) : SP E mX7_write (d + 1) 0 0 [.ref m, .int (zz l)] [(m, ob 7 [.int (zz ↑np), .ref mP, .ref mW, .int (zz ↑nr), .ref mR, .ref mB, .ref mS, .int (zz ↑ac), .ref mA, .int (zz ↑ke), .ref mK, .int (zz ↑se), .ref mE, .ref mT, .int (zz ↑tl), .int (zz ↑at_), .ref mD, .int (zz ↑rp), .ref nP, .ref nW, .int (zz ↑rr), .ref nR, .ref nB, .ref mN, .ref mO, .ref mQ, .int (zz dp), .ref mX])] (FP (some (.int (zz (-1)))) [(m, ob 7 [.int (zz ↑np), .ref mP, .ref mW, .int (zz ↑nr), .ref mR, .ref mB, .ref mS, .int (zz ↑ac), .ref mA, .int (zz ↑ke), .ref mK, .int (zz ↑se), .ref mE, .ref mT, .int (zz ↑tl), .int (zz ↑at_), .ref mD, .int (zz ↑rp), .ref nP, .ref nW, .int (zz ↑rr), .ref nR, .ref nB, .ref mN, .ref mO, .ref mQ, .int (zz dp), .ref mX])]) := by
  show RR E mX7_write (d + 1) 0 0 0 [(0, .ref m), (1, .int (zz l))] [] [(m, ob 7 [.int (zz ↑np), .ref mP, .ref mW, .int (zz ↑nr), .ref mR, .ref mB, .ref mS, .int (zz ↑ac), .ref mA, .int (zz ↑ke), .ref mK, .int (zz ↑se), .ref mE, .ref mT, .int (zz ↑tl), .int (zz ↑at_), .ref mD, .int (zz ↑rp), .ref nP, .ref nW, .int (zz ↑rr), .ref nR, .ref nB, .ref mN, .ref mO, .ref mQ, .int (zz dp), .ref mX])] (FP (some (.int (zz (-1)))) [(m, ob 7 [.int (zz ↑np), .ref mP, .ref mW, .int (zz ↑nr), .ref mR, .ref mB, .ref mS, .int (zz ↑ac), .ref mA, .int (zz ↑ke), .ref mK, .int (zz ↑se), .ref mE, .ref mT, .int (zz ↑tl), .int (zz ↑at_), .ref mD, .int (zz ↑rp), .ref nP, .ref nW, .int (zz ↑rr), .ref nR, .ref nB, .ref mN, .ref mO, .ref mQ, .int (zz dp), .ref mX])])
  refine rr_iload_n 1 dX7_write_0 rfl ?_
  refine rr_bipush dX7_write_1 (by decide) ?_
  refine rr_bipush dX7_write_3 (by decide) ?_
  refine rr_callFi (ws2 := [(m, ob 7 [.int (zz ↑np), .ref mP, .ref mW, .int (zz ↑nr), .ref mR, .ref mB, .ref mS, .int (zz ↑ac), .ref mA, .int (zz ↑ke), .ref mK, .int (zz ↑se), .ref mE, .ref mT, .int (zz ↑tl), .int (zz ↑at_), .ref mD, .int (zz ↑rp), .ref nP, .ref nW, .int (zz ↑rr), .ref nR, .ref nB, .ref mN, .ref mO, .ref mQ, .int (zz dp), .ref mX])]) (wr := [(m, ob 7 [.int (zz ↑np), .ref mP, .ref mW, .int (zz ↑nr), .ref mR, .ref mB, .ref mS, .int (zz ↑ac), .ref mA, .int (zz ↑ke), .ref mK, .int (zz ↑se), .ref mE, .ref mT, .int (zz ↑tl), .int (zz ↑at_), .ref mD, .int (zz ↑rp), .ref nP, .ref nW, .int (zz ↑rr), .ref nR, .ref nB, .ref mN, .ref mO, .ref mQ, .int (zz dp), .ref mX])]) (call_S kX7_88 (c_in E (d + 0) l 32 126 (by omega) (by omega) (by omega)) rfl (by omega) (by decide) (Nat.le_of_ble_eq_true rfl) (Nat.le_of_ble_eq_true rfl) dX7_write_5) [] [0] [0] rfl rfl rfl rfl rfl rfl rfl ?_
  refine rr_if_neD 13 dX7_write_8 (by decide) (fun c_1 => ?_) (fun c_1 => ?_)
  · skip
    exfalso; omega
  · skip
    refine rr_iconst dX7_write_11 ?_
    exact rr_iret dX7_write_12 rfl rfl ⟨rfl, rfl⟩
set_option maxRecDepth 100000 in
set_option maxHeartbeats 400000 in
theorem c_Mwrite_y (E : Ev) (d : Nat) (m mP mW mR mB mS mA mK mE mT mD nP nW nR nB mN mO mQ mX : Nat) (np nr ac ke se tl at_ rp rr : Nat) (dp : Int) (tx : Nat → Int) (l : Int) (hl : 32 ≤ l ∧ l ≤ 126) (hn : tl < 200) : SP E mX7_write (d + 1) 0 0 [.ref m, .int (zz l)] [(m, ob 7 [.int (zz ↑np), .ref mP, .ref mW, .int (zz ↑nr), .ref mR, .ref mB, .ref mS, .int (zz ↑ac), .ref mA, .int (zz ↑ke), .ref mK, .int (zz ↑se), .ref mE, .ref mT, .int (zz ↑tl), .int (zz ↑at_), .ref mD, .int (zz ↑rp), .ref nP, .ref nW, .int (zz ↑rr), .ref nR, .ref nB, .ref mN, .ref mO, .ref mQ, .int (zz dp), .ref mX]), (mT, aI E 200 tx)] (FP (some (.int (zz (↑(tl + 1))))) [(m, ob 7 [.int (zz ↑np), .ref mP, .ref mW, .int (zz ↑nr), .ref mR, .ref mB, .ref mS, .int (zz ↑ac), .ref mA, .int (zz ↑ke), .ref mK, .int (zz ↑se), .ref mE, .ref mT, .int (zz (↑(tl + 1))), .int (zz ↑at_), .ref mD, .int (zz ↑rp), .ref nP, .ref nW, .int (zz ↑rr), .ref nR, .ref nB, .ref mN, .ref mO, .ref mQ, .int (zz dp), .ref mX]), (mT, aI E 200 (updI tx tl l))]) := by
  show RR E mX7_write (d + 1) 0 0 0 [(0, .ref m), (1, .int (zz l))] [] [(m, ob 7 [.int (zz ↑np), .ref mP, .ref mW, .int (zz ↑nr), .ref mR, .ref mB, .ref mS, .int (zz ↑ac), .ref mA, .int (zz ↑ke), .ref mK, .int (zz ↑se), .ref mE, .ref mT, .int (zz ↑tl), .int (zz ↑at_), .ref mD, .int (zz ↑rp), .ref nP, .ref nW, .int (zz ↑rr), .ref nR, .ref nB, .ref mN, .ref mO, .ref mQ, .int (zz dp), .ref mX]), (mT, aI E 200 tx)] (FP (some (.int (zz (↑(tl + 1))))) [(m, ob 7 [.int (zz ↑np), .ref mP, .ref mW, .int (zz ↑nr), .ref mR, .ref mB, .ref mS, .int (zz ↑ac), .ref mA, .int (zz ↑ke), .ref mK, .int (zz ↑se), .ref mE, .ref mT, .int (zz (↑(tl + 1))), .int (zz ↑at_), .ref mD, .int (zz ↑rp), .ref nP, .ref nW, .int (zz ↑rr), .ref nR, .ref nB, .ref mN, .ref mO, .ref mQ, .int (zz dp), .ref mX]), (mT, aI E 200 (updI tx tl l))])
  refine rr_iload_n 1 dX7_write_0 rfl ?_
  refine rr_bipush dX7_write_1 (by decide) ?_
  refine rr_bipush dX7_write_3 (by decide) ?_
  refine rr_callFi (ws2 := [(m, ob 7 [.int (zz ↑np), .ref mP, .ref mW, .int (zz ↑nr), .ref mR, .ref mB, .ref mS, .int (zz ↑ac), .ref mA, .int (zz ↑ke), .ref mK, .int (zz ↑se), .ref mE, .ref mT, .int (zz ↑tl), .int (zz ↑at_), .ref mD, .int (zz ↑rp), .ref nP, .ref nW, .int (zz ↑rr), .ref nR, .ref nB, .ref mN, .ref mO, .ref mQ, .int (zz dp), .ref mX]), (mT, aI E 200 tx)]) (wr := [(m, ob 7 [.int (zz ↑np), .ref mP, .ref mW, .int (zz ↑nr), .ref mR, .ref mB, .ref mS, .int (zz ↑ac), .ref mA, .int (zz ↑ke), .ref mK, .int (zz ↑se), .ref mE, .ref mT, .int (zz ↑tl), .int (zz ↑at_), .ref mD, .int (zz ↑rp), .ref nP, .ref nW, .int (zz ↑rr), .ref nR, .ref nB, .ref mN, .ref mO, .ref mQ, .int (zz dp), .ref mX]), (mT, aI E 200 tx)]) (call_S kX7_88 (c_in E (d + 0) l 32 126 (by omega) (by omega) (by omega)) rfl (by omega) (by decide) (Nat.le_of_ble_eq_true rfl) (Nat.le_of_ble_eq_true rfl) dX7_write_5) [] [0, 1] [0, 1] rfl rfl rfl rfl rfl rfl rfl ?_
  refine rr_if_neD 13 dX7_write_8 (by decide) (fun c_1 => ?_) (fun c_1 => ?_)
  · skip
    refine rr_aload_n 0 dX7_write_13 rfl ?_
    refine rr_get fX7_95 0 rfl rfl dX7_write_14 ?_
    refine rr_sipush dX7_write_17 (by decide) ?_
    refine rr_icmp_ne 26 dX7_write_20 (by decide) (by omega) (by omega) (fun c_2 => ?_) (fun c_2 => ?_)
    · skip
      refine rr_aload_n 0 dX7_write_26 rfl ?_
      refine rr_get fX7_34 0 rfl rfl dX7_write_27 ?_
      refine rr_aload_n 0 dX7_write_30 rfl ?_
      refine rr_get fX7_95 0 rfl rfl dX7_write_31 ?_
      refine rr_iload_n 1 dX7_write_34 rfl ?_
      refine rr_iast (ws2 := [(m, ob 7 [.int (zz ↑np), .ref mP, .ref mW, .int (zz ↑nr), .ref mR, .ref mB, .ref mS, .int (zz ↑ac), .ref mA, .int (zz ↑ke), .ref mK, .int (zz ↑se), .ref mE, .ref mT, .int (zz ↑tl), .int (zz ↑at_), .ref mD, .int (zz ↑rp), .ref nP, .ref nW, .int (zz ↑rr), .ref nR, .ref nB, .ref mN, .ref mO, .ref mQ, .int (zz dp), .ref mX]), (mT, aI E 200 (updI tx tl l))]) 1 tl rfl rfl (by omega) (by omega) rfl dX7_write_35 ?_
      refine rr_aload_n 0 dX7_write_36 rfl ?_
      refine rr_dup dX7_write_37 rfl ?_
      refine rr_get fX7_95 0 rfl rfl dX7_write_38 ?_
      refine rr_iconst dX7_write_41 ?_
      refine rr_iadd dX7_write_42 ?_
      refine rr_put (ws2 := [(m, ob 7 [.int (zz ↑np), .ref mP, .ref mW, .int (zz ↑nr), .ref mR, .ref mB, .ref mS, .int (zz ↑ac), .ref mA, .int (zz ↑ke), .ref mK, .int (zz ↑se), .ref mE, .ref mT, .int (zz (↑(tl + 1))), .int (zz ↑at_), .ref mD, .int (zz ↑rp), .ref nP, .ref nW, .int (zz ↑rr), .ref nR, .ref nB, .ref mN, .ref mO, .ref mQ, .int (zz dp), .ref mX]), (mT, aI E 200 (updI tx tl l))]) fX7_95 0 rfl rfl rfl (Nat.le_of_ble_eq_true rfl) rfl dX7_write_43 ?_
      refine rr_aload_n 0 dX7_write_46 rfl ?_
      refine rr_get fX7_95 0 rfl rfl dX7_write_47 ?_
      exact rr_iret dX7_write_50 rfl rfl ⟨rfl, rfl⟩
    · skip
      exfalso; omega
  · skip
    exfalso; omega
set_option maxRecDepth 100000 in
set_option maxHeartbeats 400000 in
theorem c_Mwrite_full (E : Ev) (d : Nat) (m mP mW mR mB mS mA mK mE mT mD nP nW nR nB mN mO mQ mX : Nat) (np nr ac ke se tl at_ rp rr : Nat) (dp : Int) (l : Int) (hl : 32 ≤ l ∧ l ≤ 126) (hn : tl = 200) : SP E mX7_write (d + 1) 0 0 [.ref m, .int (zz l)] [(m, ob 7 [.int (zz ↑np), .ref mP, .ref mW, .int (zz ↑nr), .ref mR, .ref mB, .ref mS, .int (zz ↑ac), .ref mA, .int (zz ↑ke), .ref mK, .int (zz ↑se), .ref mE, .ref mT, .int (zz ↑tl), .int (zz ↑at_), .ref mD, .int (zz ↑rp), .ref nP, .ref nW, .int (zz ↑rr), .ref nR, .ref nB, .ref mN, .ref mO, .ref mQ, .int (zz dp), .ref mX])] (FP (some (.int (zz (-3)))) [(m, ob 7 [.int (zz ↑np), .ref mP, .ref mW, .int (zz ↑nr), .ref mR, .ref mB, .ref mS, .int (zz ↑ac), .ref mA, .int (zz ↑ke), .ref mK, .int (zz ↑se), .ref mE, .ref mT, .int (zz ↑tl), .int (zz ↑at_), .ref mD, .int (zz ↑rp), .ref nP, .ref nW, .int (zz ↑rr), .ref nR, .ref nB, .ref mN, .ref mO, .ref mQ, .int (zz dp), .ref mX])]) := by
  show RR E mX7_write (d + 1) 0 0 0 [(0, .ref m), (1, .int (zz l))] [] [(m, ob 7 [.int (zz ↑np), .ref mP, .ref mW, .int (zz ↑nr), .ref mR, .ref mB, .ref mS, .int (zz ↑ac), .ref mA, .int (zz ↑ke), .ref mK, .int (zz ↑se), .ref mE, .ref mT, .int (zz ↑tl), .int (zz ↑at_), .ref mD, .int (zz ↑rp), .ref nP, .ref nW, .int (zz ↑rr), .ref nR, .ref nB, .ref mN, .ref mO, .ref mQ, .int (zz dp), .ref mX])] (FP (some (.int (zz (-3)))) [(m, ob 7 [.int (zz ↑np), .ref mP, .ref mW, .int (zz ↑nr), .ref mR, .ref mB, .ref mS, .int (zz ↑ac), .ref mA, .int (zz ↑ke), .ref mK, .int (zz ↑se), .ref mE, .ref mT, .int (zz ↑tl), .int (zz ↑at_), .ref mD, .int (zz ↑rp), .ref nP, .ref nW, .int (zz ↑rr), .ref nR, .ref nB, .ref mN, .ref mO, .ref mQ, .int (zz dp), .ref mX])])
  refine rr_iload_n 1 dX7_write_0 rfl ?_
  refine rr_bipush dX7_write_1 (by decide) ?_
  refine rr_bipush dX7_write_3 (by decide) ?_
  refine rr_callFi (ws2 := [(m, ob 7 [.int (zz ↑np), .ref mP, .ref mW, .int (zz ↑nr), .ref mR, .ref mB, .ref mS, .int (zz ↑ac), .ref mA, .int (zz ↑ke), .ref mK, .int (zz ↑se), .ref mE, .ref mT, .int (zz ↑tl), .int (zz ↑at_), .ref mD, .int (zz ↑rp), .ref nP, .ref nW, .int (zz ↑rr), .ref nR, .ref nB, .ref mN, .ref mO, .ref mQ, .int (zz dp), .ref mX])]) (wr := [(m, ob 7 [.int (zz ↑np), .ref mP, .ref mW, .int (zz ↑nr), .ref mR, .ref mB, .ref mS, .int (zz ↑ac), .ref mA, .int (zz ↑ke), .ref mK, .int (zz ↑se), .ref mE, .ref mT, .int (zz ↑tl), .int (zz ↑at_), .ref mD, .int (zz ↑rp), .ref nP, .ref nW, .int (zz ↑rr), .ref nR, .ref nB, .ref mN, .ref mO, .ref mQ, .int (zz dp), .ref mX])]) (call_S kX7_88 (c_in E (d + 0) l 32 126 (by omega) (by omega) (by omega)) rfl (by omega) (by decide) (Nat.le_of_ble_eq_true rfl) (Nat.le_of_ble_eq_true rfl) dX7_write_5) [] [0] [0] rfl rfl rfl rfl rfl rfl rfl ?_
  refine rr_if_neD 13 dX7_write_8 (by decide) (fun c_1 => ?_) (fun c_1 => ?_)
  · skip
    refine rr_aload_n 0 dX7_write_13 rfl ?_
    refine rr_get fX7_95 0 rfl rfl dX7_write_14 ?_
    refine rr_sipush dX7_write_17 (by decide) ?_
    refine rr_icmp_ne 26 dX7_write_20 (by decide) (by omega) (by omega) (fun c_2 => ?_) (fun c_2 => ?_)
    · skip
      exfalso; omega
    · skip
      refine rr_bipush dX7_write_23 (by decide) ?_
      exact rr_iret dX7_write_25 rfl rfl ⟨rfl, rfl⟩
  · skip
    exfalso; omega
set_option maxRecDepth 100000 in
set_option maxHeartbeats 400000 in
theorem c_Mwipe (E : Ev) (d : Nat) (m mP mW mR mB mS mA mK mE mT mD nP nW nR nB mN mO mQ mX : Nat) (np nr ac ke se tl at_ rp rr : Nat) (dp : Int) : SP E mX7_wipe (d + 0) 0 0 [.ref m] [(m, ob 7 [.int (zz ↑np), .ref mP, .ref mW, .int (zz ↑nr), .ref mR, .ref mB, .ref mS, .int (zz ↑ac), .ref mA, .int (zz ↑ke), .ref mK, .int (zz ↑se), .ref mE, .ref mT, .int (zz ↑tl), .int (zz ↑at_), .ref mD, .int (zz ↑rp), .ref nP, .ref nW, .int (zz ↑rr), .ref nR, .ref nB, .ref mN, .ref mO, .ref mQ, .int (zz dp), .ref mX])] (FP (some (.int (zz ↑tl))) [(m, ob 7 [.int (zz ↑np), .ref mP, .ref mW, .int (zz ↑nr), .ref mR, .ref mB, .ref mS, .int (zz ↑ac), .ref mA, .int (zz ↑ke), .ref mK, .int (zz ↑se), .ref mE, .ref mT, .int (zz 0), .int (zz ↑at_), .ref mD, .int (zz ↑rp), .ref nP, .ref nW, .int (zz ↑rr), .ref nR, .ref nB, .ref mN, .ref mO, .ref mQ, .int (zz dp), .ref mX])]) := by
  show RR E mX7_wipe (d + 0) 0 0 0 [(0, .ref m)] [] [(m, ob 7 [.int (zz ↑np), .ref mP, .ref mW, .int (zz ↑nr), .ref mR, .ref mB, .ref mS, .int (zz ↑ac), .ref mA, .int (zz ↑ke), .ref mK, .int (zz ↑se), .ref mE, .ref mT, .int (zz ↑tl), .int (zz ↑at_), .ref mD, .int (zz ↑rp), .ref nP, .ref nW, .int (zz ↑rr), .ref nR, .ref nB, .ref mN, .ref mO, .ref mQ, .int (zz dp), .ref mX])] (FP (some (.int (zz ↑tl))) [(m, ob 7 [.int (zz ↑np), .ref mP, .ref mW, .int (zz ↑nr), .ref mR, .ref mB, .ref mS, .int (zz ↑ac), .ref mA, .int (zz ↑ke), .ref mK, .int (zz ↑se), .ref mE, .ref mT, .int (zz 0), .int (zz ↑at_), .ref mD, .int (zz ↑rp), .ref nP, .ref nW, .int (zz ↑rr), .ref nR, .ref nB, .ref mN, .ref mO, .ref mQ, .int (zz dp), .ref mX])])
  refine rr_aload_n 0 dX7_wipe_0 rfl ?_
  refine rr_get fX7_95 0 rfl rfl dX7_wipe_1 ?_
  refine rr_istore_n (lv2 := [(0, .ref m), (1, .int (zz ↑tl))]) dX7_wipe_4 (by decide) rfl ?_
  refine rr_aload_n 0 dX7_wipe_5 rfl ?_
  refine rr_iconst dX7_wipe_6 ?_
  refine rr_put (ws2 := [(m, ob 7 [.int (zz ↑np), .ref mP, .ref mW, .int (zz ↑nr), .ref mR, .ref mB, .ref mS, .int (zz ↑ac), .ref mA, .int (zz ↑ke), .ref mK, .int (zz ↑se), .ref mE, .ref mT, .int (zz 0), .int (zz ↑at_), .ref mD, .int (zz ↑rp), .ref nP, .ref nW, .int (zz ↑rr), .ref nR, .ref nB, .ref mN, .ref mO, .ref mQ, .int (zz dp), .ref mX])]) fX7_95 0 rfl rfl rfl (Nat.le_of_ble_eq_true rfl) rfl dX7_wipe_7 ?_
  refine rr_iload_n 1 dX7_wipe_10 rfl ?_
  exact rr_iret dX7_wipe_11 rfl rfl ⟨rfl, rfl⟩
set_option maxRecDepth 100000 in
set_option maxHeartbeats 400000 in
theorem c_letterAt (E : Ev) (d : Nat) (m mP mW mR mB mS mA mK mE mT mD nP nW nR nB mN mO mQ mX : Nat) (np nr ac ke se tl at_ rp rr : Nat) (dp : Int) (tx : Nat → Int) (a : Nat) (htx : txOK tx tl) (ha : a ≤ 2000) : SP E mX7_letterAt (d + 0) 0 0 [.ref m, .int (zz ↑a)] [(m, ob 7 [.int (zz ↑np), .ref mP, .ref mW, .int (zz ↑nr), .ref mR, .ref mB, .ref mS, .int (zz ↑ac), .ref mA, .int (zz ↑ke), .ref mK, .int (zz ↑se), .ref mE, .ref mT, .int (zz ↑tl), .int (zz ↑at_), .ref mD, .int (zz ↑rp), .ref nP, .ref nW, .int (zz ↑rr), .ref nR, .ref nB, .ref mN, .ref mO, .ref mQ, .int (zz dp), .ref mX]), (mT, aI E 200 tx)] (FP (some (.int (zz (lgM tx tl a)))) [(m, ob 7 [.int (zz ↑np), .ref mP, .ref mW, .int (zz ↑nr), .ref mR, .ref mB, .ref mS, .int (zz ↑ac), .ref mA, .int (zz ↑ke), .ref mK, .int (zz ↑se), .ref mE, .ref mT, .int (zz ↑tl), .int (zz ↑at_), .ref mD, .int (zz ↑rp), .ref nP, .ref nW, .int (zz ↑rr), .ref nR, .ref nB, .ref mN, .ref mO, .ref mQ, .int (zz dp), .ref mX]), (mT, aI E 200 tx)]) := by
  show RR E mX7_letterAt (d + 0) 0 0 0 [(0, .ref m), (1, .int (zz ↑a))] [] [(m, ob 7 [.int (zz ↑np), .ref mP, .ref mW, .int (zz ↑nr), .ref mR, .ref mB, .ref mS, .int (zz ↑ac), .ref mA, .int (zz ↑ke), .ref mK, .int (zz ↑se), .ref mE, .ref mT, .int (zz ↑tl), .int (zz ↑at_), .ref mD, .int (zz ↑rp), .ref nP, .ref nW, .int (zz ↑rr), .ref nR, .ref nB, .ref mN, .ref mO, .ref mQ, .int (zz dp), .ref mX]), (mT, aI E 200 tx)] (FP (some (.int (zz (lgM tx tl a)))) [(m, ob 7 [.int (zz ↑np), .ref mP, .ref mW, .int (zz ↑nr), .ref mR, .ref mB, .ref mS, .int (zz ↑ac), .ref mA, .int (zz ↑ke), .ref mK, .int (zz ↑se), .ref mE, .ref mT, .int (zz ↑tl), .int (zz ↑at_), .ref mD, .int (zz ↑rp), .ref nP, .ref nW, .int (zz ↑rr), .ref nR, .ref nB, .ref mN, .ref mO, .ref mQ, .int (zz dp), .ref mX]), (mT, aI E 200 tx)])
  have hlen := htx.1
  refine rr_iload_n 1 dX7_letterAt_0 rfl ?_
  refine rr_aload_n 0 dX7_letterAt_1 rfl ?_
  refine rr_get fX7_95 0 rfl rfl dX7_letterAt_2 ?_
  refine rr_icmp_ge 17 dX7_letterAt_5 (by decide) (by omega) (by omega) (fun c_1 => ?_) (fun c_1 => ?_)
  · skip
    refine rr_iconst dX7_letterAt_17 ?_
    exact rr_iret dX7_letterAt_18 rfl rfl ⟨congrArg (fun z => some (Value.int (zz z))) (by unfold lgM; split <;> first | rfl | omega), rfl⟩
  · skip
    refine rr_aload_n 0 dX7_letterAt_8 rfl ?_
    refine rr_get fX7_34 0 rfl rfl dX7_letterAt_9 ?_
    refine rr_iload_n 1 dX7_letterAt_12 rfl ?_
    refine rr_iald 1 a rfl rfl (by omega) (by omega) dX7_letterAt_13 ?_
    refine rr_goto 18 dX7_letterAt_14 (by decide) ?_
    exact rr_iret dX7_letterAt_18 rfl rfl ⟨congrArg (fun z => some (Value.int (zz z))) (by unfold lgM; split <;> first | rfl | omega), rfl⟩
set_option maxRecDepth 100000 in
set_option maxHeartbeats 400000 in
theorem c_isFigure (E : Ev) (d : Nat) (v : Int) (gv : -2147483648 ≤ v ∧ v < 2147483648) : SP E mX7_isFigure (d + 1) 0 0 [.int (zz v)] [] (FP (some (.int (zz (bI (decide (48 ≤ v ∧ v ≤ 57)))))) []) := by
  show RR E mX7_isFigure (d + 1) 0 0 0 [(0, .int (zz v))] [] [] (FP (some (.int (zz (bI (decide (48 ≤ v ∧ v ≤ 57)))))) [])
  refine rr_iload_n 0 dX7_isFigure_0 rfl ?_
  refine rr_bipush dX7_isFigure_1 (by decide) ?_
  refine rr_bipush dX7_isFigure_3 (by decide) ?_
  refine rr_callFi (ws2 := []) (wr := []) (call_S kX7_88 (c_in E (d + 0) v 48 57 (by omega) (by omega) (by omega)) rfl (by omega) (by decide) (Nat.le_of_ble_eq_true rfl) (Nat.le_of_ble_eq_true rfl) dX7_isFigure_5) [] [] [] rfl rfl rfl rfl rfl rfl rfl ?_
  exact rr_iret dX7_isFigure_8 rfl (nar_b _) ⟨rfl, rfl⟩
set_option maxRecDepth 100000 in
set_option maxHeartbeats 400000 in
theorem c_isTold (E : Ev) (d : Nat) (m mP mW mR mB mS mA mK mE mT mD nP nW nR nB mN mO mQ mX : Nat) (np nr ac ke se tl at_ rp rr : Nat) (dp : Int) (t : Nat → Int) (i : Nat) (l h : Int) (hi : i < 4) (ht : nmM t) (gl : -2147483648 ≤ l ∧ l < 2147483648) (gh : -2147483648 ≤ h ∧ h < 2147483648) : SP E mX7_isTold (d + 1) 0 0 [.ref m, .int (zz ↑i), .int (zz l), .int (zz h)] [(m, ob 7 [.int (zz ↑np), .ref mP, .ref mW, .int (zz ↑nr), .ref mR, .ref mB, .ref mS, .int (zz ↑ac), .ref mA, .int (zz ↑ke), .ref mK, .int (zz ↑se), .ref mE, .ref mT, .int (zz ↑tl), .int (zz ↑at_), .ref mD, .int (zz ↑rp), .ref nP, .ref nW, .int (zz ↑rr), .ref nR, .ref nB, .ref mN, .ref mO, .ref mQ, .int (zz dp), .ref mX]), (mD, aI E 4 t)] (FP (some (.int (zz (bI (decide (l ≤ t i ∧ t i ≤ h)))))) [(m, ob 7 [.int (zz ↑np), .ref mP, .ref mW, .int (zz ↑nr), .ref mR, .ref mB, .ref mS, .int (zz ↑ac), .ref mA, .int (zz ↑ke), .ref mK, .int (zz ↑se), .ref mE, .ref mT, .int (zz ↑tl), .int (zz ↑at_), .ref mD, .int (zz ↑rp), .ref nP, .ref nW, .int (zz ↑rr), .ref nR, .ref nB, .ref mN, .ref mO, .ref mQ, .int (zz dp), .ref mX]), (mD, aI E 4 t)]) := by
  show RR E mX7_isTold (d + 1) 0 0 0 [(0, .ref m), (1, .int (zz ↑i)), (2, .int (zz l)), (3, .int (zz h))] [] [(m, ob 7 [.int (zz ↑np), .ref mP, .ref mW, .int (zz ↑nr), .ref mR, .ref mB, .ref mS, .int (zz ↑ac), .ref mA, .int (zz ↑ke), .ref mK, .int (zz ↑se), .ref mE, .ref mT, .int (zz ↑tl), .int (zz ↑at_), .ref mD, .int (zz ↑rp), .ref nP, .ref nW, .int (zz ↑rr), .ref nR, .ref nB, .ref mN, .ref mO, .ref mQ, .int (zz dp), .ref mX]), (mD, aI E 4 t)] (FP (some (.int (zz (bI (decide (l ≤ t i ∧ t i ≤ h)))))) [(m, ob 7 [.int (zz ↑np), .ref mP, .ref mW, .int (zz ↑nr), .ref mR, .ref mB, .ref mS, .int (zz ↑ac), .ref mA, .int (zz ↑ke), .ref mK, .int (zz ↑se), .ref mE, .ref mT, .int (zz ↑tl), .int (zz ↑at_), .ref mD, .int (zz ↑rp), .ref nP, .ref nW, .int (zz ↑rr), .ref nR, .ref nB, .ref mN, .ref mO, .ref mQ, .int (zz dp), .ref mX]), (mD, aI E 4 t)])
  have ht1 := ht i hi
  refine rr_aload_n 0 dX7_isTold_0 rfl ?_
  refine rr_get fX7_37 0 rfl rfl dX7_isTold_1 ?_
  refine rr_iload_n 1 dX7_isTold_4 rfl ?_
  refine rr_iald 1 i rfl rfl (by omega) (by omega) dX7_isTold_5 ?_
  refine rr_iload_n 2 dX7_isTold_6 rfl ?_
  refine rr_iload_n 3 dX7_isTold_7 rfl ?_
  refine rr_callFi (ws2 := [(m, ob 7 [.int (zz ↑np), .ref mP, .ref mW, .int (zz ↑nr), .ref mR, .ref mB, .ref mS, .int (zz ↑ac), .ref mA, .int (zz ↑ke), .ref mK, .int (zz ↑se), .ref mE, .ref mT, .int (zz ↑tl), .int (zz ↑at_), .ref mD, .int (zz ↑rp), .ref nP, .ref nW, .int (zz ↑rr), .ref nR, .ref nB, .ref mN, .ref mO, .ref mQ, .int (zz dp), .ref mX]), (mD, aI E 4 t)]) (wr := [(m, ob 7 [.int (zz ↑np), .ref mP, .ref mW, .int (zz ↑nr), .ref mR, .ref mB, .ref mS, .int (zz ↑ac), .ref mA, .int (zz ↑ke), .ref mK, .int (zz ↑se), .ref mE, .ref mT, .int (zz ↑tl), .int (zz ↑at_), .ref mD, .int (zz ↑rp), .ref nP, .ref nW, .int (zz ↑rr), .ref nR, .ref nB, .ref mN, .ref mO, .ref mQ, .int (zz dp), .ref mX]), (mD, aI E 4 t)]) (call_S kX7_88 (c_in E (d + 0) (t i) l h (by omega) (by omega) (by omega)) rfl (by omega) (by decide) (Nat.le_of_ble_eq_true rfl) (Nat.le_of_ble_eq_true rfl) dX7_isTold_8) [] [0, 1] [0, 1] rfl rfl rfl rfl rfl rfl rfl ?_
  exact rr_iret dX7_isTold_11 rfl (nar_b _) ⟨rfl, rfl⟩
set_option maxRecDepth 100000 in
set_option maxHeartbeats 400000 in
theorem c_readNumbers (E : Ev) (d : Nat) (m mP mW mR mB mS mA mK mE mT mD nP nW nR nB mN mO mQ mX : Nat) (np nr ac ke se tl at_ rp rr : Nat) (dp : Int) (n : Nat) (tx t : Nat → Int) (hn : n ≤ 4) (htx : txOK tx tl) (hat : at_ ≤ 201) (hnm : nmM t) : SP E mX7_readNumbers (d + 2) 0 0 [.ref m, .int (zz ↑n)] [(m, ob 7 [.int (zz ↑np), .ref mP, .ref mW, .int (zz ↑nr), .ref mR, .ref mB, .ref mS, .int (zz ↑ac), .ref mA, .int (zz ↑ke), .ref mK, .int (zz ↑se), .ref mE, .ref mT, .int (zz ↑tl), .int (zz ↑at_), .ref mD, .int (zz ↑rp), .ref nP, .ref nW, .int (zz ↑rr), .ref nR, .ref nB, .ref mN, .ref mO, .ref mQ, .int (zz dp), .ref mX]), (mT, aI E 200 tx), (mD, aI E 4 t)] (oPost (rds tx tl n 0 at_ t) (fun x w => nmM x.1 ∧ w = [(m, ob 7 [.int (zz ↑np), .ref mP, .ref mW, .int (zz ↑nr), .ref mR, .ref mB, .ref mS, .int (zz ↑ac), .ref mA, .int (zz ↑ke), .ref mK, .int (zz ↑se), .ref mE, .ref mT, .int (zz ↑tl), .int (zz (↑(x.2))), .ref mD, .int (zz ↑rp), .ref nP, .ref nW, .int (zz ↑rr), .ref nR, .ref nB, .ref mN, .ref mO, .ref mQ, .int (zz dp), .ref mX]), (mT, aI E 200 tx), (mD, aI E 4 x.1)]) (fun w => ∃ (a2 : Nat) (t2 : Nat → Int), nmM t2 ∧ w = [(m, ob 7 [.int (zz ↑np), .ref mP, .ref mW, .int (zz ↑nr), .ref mR, .ref mB, .ref mS, .int (zz ↑ac), .ref mA, .int (zz ↑ke), .ref mK, .int (zz ↑se), .ref mE, .ref mT, .int (zz ↑tl), .int (zz ↑a2), .ref mD, .int (zz ↑rp), .ref nP, .ref nW, .int (zz ↑rr), .ref nR, .ref nB, .ref mN, .ref mO, .ref mQ, .int (zz dp), .ref mX]), (mT, aI E 200 tx), (mD, aI E 4 t2)])) := by
  show RR E mX7_readNumbers (d + 2) 0 0 0 [(0, .ref m), (1, .int (zz ↑n))] [] [(m, ob 7 [.int (zz ↑np), .ref mP, .ref mW, .int (zz ↑nr), .ref mR, .ref mB, .ref mS, .int (zz ↑ac), .ref mA, .int (zz ↑ke), .ref mK, .int (zz ↑se), .ref mE, .ref mT, .int (zz ↑tl), .int (zz ↑at_), .ref mD, .int (zz ↑rp), .ref nP, .ref nW, .int (zz ↑rr), .ref nR, .ref nB, .ref mN, .ref mO, .ref mQ, .int (zz dp), .ref mX]), (mT, aI E 200 tx), (mD, aI E 4 t)] (oPost (rds tx tl n 0 at_ t) (fun x w => nmM x.1 ∧ w = [(m, ob 7 [.int (zz ↑np), .ref mP, .ref mW, .int (zz ↑nr), .ref mR, .ref mB, .ref mS, .int (zz ↑ac), .ref mA, .int (zz ↑ke), .ref mK, .int (zz ↑se), .ref mE, .ref mT, .int (zz ↑tl), .int (zz (↑(x.2))), .ref mD, .int (zz ↑rp), .ref nP, .ref nW, .int (zz ↑rr), .ref nR, .ref nB, .ref mN, .ref mO, .ref mQ, .int (zz dp), .ref mX]), (mT, aI E 200 tx), (mD, aI E 4 x.1)]) (fun w => ∃ (a2 : Nat) (t2 : Nat → Int), nmM t2 ∧ w = [(m, ob 7 [.int (zz ↑np), .ref mP, .ref mW, .int (zz ↑nr), .ref mR, .ref mB, .ref mS, .int (zz ↑ac), .ref mA, .int (zz ↑ke), .ref mK, .int (zz ↑se), .ref mE, .ref mT, .int (zz ↑tl), .int (zz ↑a2), .ref mD, .int (zz ↑rp), .ref nP, .ref nW, .int (zz ↑rr), .ref nR, .ref nB, .ref mN, .ref mO, .ref mQ, .int (zz dp), .ref mX]), (mT, aI E 200 tx), (mD, aI E 4 t2)]))
  have hlen := htx.1
  have hsg := fun a => sgF_rg (at_ := a) htx
  have lp : ∀ (r i a : Nat) (t1 : Nat → Int), i + r = n → a + 3 * r ≤ at_ + 13 → nmM t1 → rds tx tl n 0 at_ t = rds tx tl r i a t1 → RR E mX7_readNumbers (d + 2) 0 0 2 [(0, .ref m), (1, .int (zz ↑n)), (2, .int (zz ↑i))] [] [(m, ob 7 [.int (zz ↑np), .ref mP, .ref mW, .int (zz ↑nr), .ref mR, .ref mB, .ref mS, .int (zz ↑ac), .ref mA, .int (zz ↑ke), .ref mK, .int (zz ↑se), .ref mE, .ref mT, .int (zz ↑tl), .int (zz ↑a), .ref mD, .int (zz ↑rp), .ref nP, .ref nW, .int (zz ↑rr), .ref nR, .ref nB, .ref mN, .ref mO, .ref mQ, .int (zz dp), .ref mX]), (mT, aI E 200 tx), (mD, aI E 4 t1)] (oPost (rds tx tl n 0 at_ t) (fun x w => nmM x.1 ∧ w = [(m, ob 7 [.int (zz ↑np), .ref mP, .ref mW, .int (zz ↑nr), .ref mR, .ref mB, .ref mS, .int (zz ↑ac), .ref mA, .int (zz ↑ke), .ref mK, .int (zz ↑se), .ref mE, .ref mT, .int (zz ↑tl), .int (zz (↑(x.2))), .ref mD, .int (zz ↑rp), .ref nP, .ref nW, .int (zz ↑rr), .ref nR, .ref nB, .ref mN, .ref mO, .ref mQ, .int (zz dp), .ref mX]), (mT, aI E 200 tx), (mD, aI E 4 x.1)]) (fun w => ∃ (a2 : Nat) (t2 : Nat → Int), nmM t2 ∧ w = [(m, ob 7 [.int (zz ↑np), .ref mP, .ref mW, .int (zz ↑nr), .ref mR, .ref mB, .ref mS, .int (zz ↑ac), .ref mA, .int (zz ↑ke), .ref mK, .int (zz ↑se), .ref mE, .ref mT, .int (zz ↑tl), .int (zz ↑a2), .ref mD, .int (zz ↑rp), .ref nP, .ref nW, .int (zz ↑rr), .ref nR, .ref nB, .ref mN, .ref mO, .ref mQ, .int (zz dp), .ref mX]), (mT, aI E 200 tx), (mD, aI E 4 t2)])) := by
    intro r
    induction r with
    | zero =>
      intro i a t1 h1 h2 hn1 h4
      refine rr_iload_n 2 dX7_readNumbers_2 rfl ?_
      refine rr_iload_n 1 dX7_readNumbers_3 rfl ?_
      refine rr_icmp_ge 144 dX7_readNumbers_4 (by decide) (by omega) (by omega) (fun c_1 => ?_) (fun c_1 => ?_)
      · skip
        refine rr_iconst dX7_readNumbers_144 ?_
        exact rr_iret dX7_readNumbers_145 rfl rfl (oPost_some (x := (t1, a)) (h4.trans rds_0) ⟨hn1, rfl⟩)
      · skip
        exfalso; omega
    | succ r ih =>
      intro i a t1 h1 h2 hn1 h4
      have g0 := hsg a
      have g1 := hsg (a + 1)
      have g2 := hsg (a + 2)
      have q0 := lgM_sg tx tl a
      have q1 := lgM_sg tx tl (a + 1)
      have q2 := lgM_sg tx tl (a + 2)
      rcases rd_cases tx tl a with ⟨hf, hg⟩ | ⟨hf, hg⟩ | hf
      · skip
        have eL : lgM tx tl a = sgF tx tl a := by omega
        have eL2 : lgM tx tl (a + 1) = sgF tx tl (a + 1) := by omega
        refine rr_iload_n 2 dX7_readNumbers_2 rfl ?_
        refine rr_iload_n 1 dX7_readNumbers_3 rfl ?_
        refine rr_icmp_ge 144 dX7_readNumbers_4 (by decide) (by omega) (by omega) (fun c_2 => ?_) (fun c_2 => ?_)
        · skip
          exfalso; omega
        · skip
          refine rr_aload_n 0 dX7_readNumbers_7 rfl ?_
          refine rr_aload_n 0 dX7_readNumbers_8 rfl ?_
          refine rr_get fX7_98 0 rfl rfl dX7_readNumbers_9 ?_
          refine rr_callFi (ws2 := [(m, ob 7 [.int (zz ↑np), .ref mP, .ref mW, .int (zz ↑nr), .ref mR, .ref mB, .ref mS, .int (zz ↑ac), .ref mA, .int (zz ↑ke), .ref mK, .int (zz ↑se), .ref mE, .ref mT, .int (zz ↑tl), .int (zz ↑a), .ref mD, .int (zz ↑rp), .ref nP, .ref nW, .int (zz ↑rr), .ref nR, .ref nB, .ref mN, .ref mO, .ref mQ, .int (zz dp), .ref mX]), (mT, aI E 200 tx), (mD, aI E 4 t1)]) (wr := [(mD, aI E 4 t1)]) (call_V (q0 := 0) kX7_101 (c_letterAt E (d + 1) m mP mW mR mB mS mA mK mE mT mD nP nW nR nB mN mO mQ mX np nr ac ke se tl a rp rr dp tx a htx (by omega)) rfl rfl rfl rfl (by omega) (by decide) (Nat.le_of_ble_eq_true rfl) (Nat.le_of_ble_eq_true rfl) dX7_readNumbers_12) [0, 1] [2] [1, 2, 0] rfl rfl rfl rfl rfl rfl rfl ?_
          refine rr_callFi (ws2 := [(m, ob 7 [.int (zz ↑np), .ref mP, .ref mW, .int (zz ↑nr), .ref mR, .ref mB, .ref mS, .int (zz ↑ac), .ref mA, .int (zz ↑ke), .ref mK, .int (zz ↑se), .ref mE, .ref mT, .int (zz ↑tl), .int (zz ↑a), .ref mD, .int (zz ↑rp), .ref nP, .ref nW, .int (zz ↑rr), .ref nR, .ref nB, .ref mN, .ref mO, .ref mQ, .int (zz dp), .ref mX]), (mT, aI E 200 tx), (mD, aI E 4 t1)]) (wr := [(m, ob 7 [.int (zz ↑np), .ref mP, .ref mW, .int (zz ↑nr), .ref mR, .ref mB, .ref mS, .int (zz ↑ac), .ref mA, .int (zz ↑ke), .ref mK, .int (zz ↑se), .ref mE, .ref mT, .int (zz ↑tl), .int (zz ↑a), .ref mD, .int (zz ↑rp), .ref nP, .ref nW, .int (zz ↑rr), .ref nR, .ref nB, .ref mN, .ref mO, .ref mQ, .int (zz dp), .ref mX]), (mT, aI E 200 tx), (mD, aI E 4 t1)]) (call_S kX7_105 (c_isFigure E (d + 0) (lgM tx tl a) (by omega)) rfl (by omega) (by decide) (Nat.le_of_ble_eq_true rfl) (Nat.le_of_ble_eq_true rfl) dX7_readNumbers_15) [] [0, 1, 2] [0, 1, 2] rfl rfl rfl rfl rfl rfl rfl ?_
          refine rr_if_neD 23 dX7_readNumbers_18 (by decide) (fun c_3 => ?_) (fun c_3 => ?_)
          · skip
            refine rr_aload_n 0 dX7_readNumbers_23 rfl ?_
            refine rr_get fX7_37 0 rfl rfl dX7_readNumbers_24 ?_
            refine rr_iload_n 2 dX7_readNumbers_27 rfl ?_
            refine rr_aload_n 0 dX7_readNumbers_28 rfl ?_
            refine rr_aload_n 0 dX7_readNumbers_29 rfl ?_
            refine rr_get fX7_98 0 rfl rfl dX7_readNumbers_30 ?_
            refine rr_callFi (ws2 := [(m, ob 7 [.int (zz ↑np), .ref mP, .ref mW, .int (zz ↑nr), .ref mR, .ref mB, .ref mS, .int (zz ↑ac), .ref mA, .int (zz ↑ke), .ref mK, .int (zz ↑se), .ref mE, .ref mT, .int (zz ↑tl), .int (zz ↑a), .ref mD, .int (zz ↑rp), .ref nP, .ref nW, .int (zz ↑rr), .ref nR, .ref nB, .ref mN, .ref mO, .ref mQ, .int (zz dp), .ref mX]), (mT, aI E 200 tx), (mD, aI E 4 t1)]) (wr := [(mD, aI E 4 t1)]) (call_V (q0 := 0) kX7_101 (c_letterAt E (d + 1) m mP mW mR mB mS mA mK mE mT mD nP nW nR nB mN mO mQ mX np nr ac ke se tl a rp rr dp tx a htx (by omega)) rfl rfl rfl rfl (by omega) (by decide) (Nat.le_of_ble_eq_true rfl) (Nat.le_of_ble_eq_true rfl) dX7_readNumbers_33) [0, 1] [2] [1, 2, 0] rfl rfl rfl rfl rfl rfl rfl ?_
            refine rr_bipush dX7_readNumbers_36 (by decide) ?_
            refine rr_isub dX7_readNumbers_38 ?_
            refine rr_iast (ws2 := [(m, ob 7 [.int (zz ↑np), .ref mP, .ref mW, .int (zz ↑nr), .ref mR, .ref mB, .ref mS, .int (zz ↑ac), .ref mA, .int (zz ↑ke), .ref mK, .int (zz ↑se), .ref mE, .ref mT, .int (zz ↑tl), .int (zz ↑a), .ref mD, .int (zz ↑rp), .ref nP, .ref nW, .int (zz ↑rr), .ref nR, .ref nB, .ref mN, .ref mO, .ref mQ, .int (zz dp), .ref mX]), (mT, aI E 200 tx), (mD, aI E 4 (updI t1 i ((lgM tx tl a) - 48)))]) 2 i rfl rfl (by omega) (by omega) rfl dX7_readNumbers_39 ?_
            refine rr_aload_n 0 dX7_readNumbers_40 rfl ?_
            refine rr_dup dX7_readNumbers_41 rfl ?_
            refine rr_get fX7_98 0 rfl rfl dX7_readNumbers_42 ?_
            refine rr_iconst dX7_readNumbers_45 ?_
            refine rr_iadd dX7_readNumbers_46 ?_
            refine rr_put (ws2 := [(m, ob 7 [.int (zz ↑np), .ref mP, .ref mW, .int (zz ↑nr), .ref mR, .ref mB, .ref mS, .int (zz ↑ac), .ref mA, .int (zz ↑ke), .ref mK, .int (zz ↑se), .ref mE, .ref mT, .int (zz ↑tl), .int (zz (↑(a + 1))), .ref mD, .int (zz ↑rp), .ref nP, .ref nW, .int (zz ↑rr), .ref nR, .ref nB, .ref mN, .ref mO, .ref mQ, .int (zz dp), .ref mX]), (mT, aI E 200 tx), (mD, aI E 4 (updI t1 i ((lgM tx tl a) - 48)))]) fX7_98 0 rfl rfl rfl (Nat.le_of_ble_eq_true rfl) rfl dX7_readNumbers_47 ?_
            refine rr_aload_n 0 dX7_readNumbers_50 rfl ?_
            refine rr_aload_n 0 dX7_readNumbers_51 rfl ?_
            refine rr_get fX7_98 0 rfl rfl dX7_readNumbers_52 ?_
            refine rr_callFi (ws2 := [(m, ob 7 [.int (zz ↑np), .ref mP, .ref mW, .int (zz ↑nr), .ref mR, .ref mB, .ref mS, .int (zz ↑ac), .ref mA, .int (zz ↑ke), .ref mK, .int (zz ↑se), .ref mE, .ref mT, .int (zz ↑tl), .int (zz (↑(a + 1))), .ref mD, .int (zz ↑rp), .ref nP, .ref nW, .int (zz ↑rr), .ref nR, .ref nB, .ref mN, .ref mO, .ref mQ, .int (zz dp), .ref mX]), (mT, aI E 200 tx), (mD, aI E 4 (updI t1 i ((lgM tx tl a) - 48)))]) (wr := [(mD, aI E 4 (updI t1 i ((lgM tx tl a) - 48)))]) (call_V (q0 := 0) kX7_101 (c_letterAt E (d + 1) m mP mW mR mB mS mA mK mE mT mD nP nW nR nB mN mO mQ mX np nr ac ke se tl (a + 1) rp rr dp tx (a + 1) htx (by omega)) rfl rfl rfl rfl (by omega) (by decide) (Nat.le_of_ble_eq_true rfl) (Nat.le_of_ble_eq_true rfl) dX7_readNumbers_55) [0, 1] [2] [1, 2, 0] rfl rfl rfl rfl rfl rfl rfl ?_
            refine rr_callFi (ws2 := [(m, ob 7 [.int (zz ↑np), .ref mP, .ref mW, .int (zz ↑nr), .ref mR, .ref mB, .ref mS, .int (zz ↑ac), .ref mA, .int (zz ↑ke), .ref mK, .int (zz ↑se), .ref mE, .ref mT, .int (zz ↑tl), .int (zz (↑(a + 1))), .ref mD, .int (zz ↑rp), .ref nP, .ref nW, .int (zz ↑rr), .ref nR, .ref nB, .ref mN, .ref mO, .ref mQ, .int (zz dp), .ref mX]), (mT, aI E 200 tx), (mD, aI E 4 (updI t1 i ((lgM tx tl a) - 48)))]) (wr := [(m, ob 7 [.int (zz ↑np), .ref mP, .ref mW, .int (zz ↑nr), .ref mR, .ref mB, .ref mS, .int (zz ↑ac), .ref mA, .int (zz ↑ke), .ref mK, .int (zz ↑se), .ref mE, .ref mT, .int (zz ↑tl), .int (zz (↑(a + 1))), .ref mD, .int (zz ↑rp), .ref nP, .ref nW, .int (zz ↑rr), .ref nR, .ref nB, .ref mN, .ref mO, .ref mQ, .int (zz dp), .ref mX]), (mT, aI E 200 tx), (mD, aI E 4 (updI t1 i ((lgM tx tl a) - 48)))]) (call_S kX7_105 (c_isFigure E (d + 0) (lgM tx tl (a + 1)) (by omega)) rfl (by omega) (by decide) (Nat.le_of_ble_eq_true rfl) (Nat.le_of_ble_eq_true rfl) dX7_readNumbers_58) [] [0, 1, 2] [0, 1, 2] rfl rfl rfl rfl rfl rfl rfl ?_
            refine rr_if_eqD 101 dX7_readNumbers_61 (by decide) (fun c_4 => ?_) (fun c_4 => ?_)
            · skip
              exfalso; omega
            · skip
              refine rr_aload_n 0 dX7_readNumbers_64 rfl ?_
              refine rr_get fX7_37 0 rfl rfl dX7_readNumbers_65 ?_
              refine rr_iload_n 2 dX7_readNumbers_68 rfl ?_
              refine rr_bipush dX7_readNumbers_69 (by decide) ?_
              refine rr_aload_n 0 dX7_readNumbers_71 rfl ?_
              refine rr_get fX7_37 0 rfl rfl dX7_readNumbers_72 ?_
              refine rr_iload_n 2 dX7_readNumbers_75 rfl ?_
              refine rr_iald 2 i rfl rfl (by omega) (by omega) dX7_readNumbers_76 ?_
              refine rr_top (b := (lgM tx tl a) - 48) (updI_eq _ _ _) ?_
              refine rr_imul dX7_readNumbers_77 ?_
              refine rr_aload_n 0 dX7_readNumbers_78 rfl ?_
              refine rr_aload_n 0 dX7_readNumbers_79 rfl ?_
              refine rr_get fX7_98 0 rfl rfl dX7_readNumbers_80 ?_
              refine rr_callFi (ws2 := [(m, ob 7 [.int (zz ↑np), .ref mP, .ref mW, .int (zz ↑nr), .ref mR, .ref mB, .ref mS, .int (zz ↑ac), .ref mA, .int (zz ↑ke), .ref mK, .int (zz ↑se), .ref mE, .ref mT, .int (zz ↑tl), .int (zz (↑(a + 1))), .ref mD, .int (zz ↑rp), .ref nP, .ref nW, .int (zz ↑rr), .ref nR, .ref nB, .ref mN, .ref mO, .ref mQ, .int (zz dp), .ref mX]), (mT, aI E 200 tx), (mD, aI E 4 (updI t1 i ((lgM tx tl a) - 48)))]) (wr := [(mD, aI E 4 (updI t1 i ((lgM tx tl a) - 48)))]) (call_V (q0 := 0) kX7_101 (c_letterAt E (d + 1) m mP mW mR mB mS mA mK mE mT mD nP nW nR nB mN mO mQ mX np nr ac ke se tl (a + 1) rp rr dp tx (a + 1) htx (by omega)) rfl rfl rfl rfl (by omega) (by decide) (Nat.le_of_ble_eq_true rfl) (Nat.le_of_ble_eq_true rfl) dX7_readNumbers_83) [0, 1] [2] [1, 2, 0] rfl rfl rfl rfl rfl rfl rfl ?_
              refine rr_iadd dX7_readNumbers_86 ?_
              refine rr_bipush dX7_readNumbers_87 (by decide) ?_
              refine rr_isub dX7_readNumbers_89 ?_
              refine rr_iast (ws2 := [(m, ob 7 [.int (zz ↑np), .ref mP, .ref mW, .int (zz ↑nr), .ref mR, .ref mB, .ref mS, .int (zz ↑ac), .ref mA, .int (zz ↑ke), .ref mK, .int (zz ↑se), .ref mE, .ref mT, .int (zz ↑tl), .int (zz (↑(a + 1))), .ref mD, .int (zz ↑rp), .ref nP, .ref nW, .int (zz ↑rr), .ref nR, .ref nB, .ref mN, .ref mO, .ref mQ, .int (zz dp), .ref mX]), (mT, aI E 200 tx), (mD, aI E 4 (updI (updI t1 i ((lgM tx tl a) - 48)) i (((10 * ((lgM tx tl a) - 48)) + (lgM tx tl (a + 1))) - 48)))]) 2 i rfl rfl (by omega) (by omega) rfl dX7_readNumbers_90 ?_
              refine rr_aload_n 0 dX7_readNumbers_91 rfl ?_
              refine rr_dup dX7_readNumbers_92 rfl ?_
              refine rr_get fX7_98 0 rfl rfl dX7_readNumbers_93 ?_
              refine rr_iconst dX7_readNumbers_96 ?_
              refine rr_iadd dX7_readNumbers_97 ?_
              refine rr_put (ws2 := [(m, ob 7 [.int (zz ↑np), .ref mP, .ref mW, .int (zz ↑nr), .ref mR, .ref mB, .ref mS, .int (zz ↑ac), .ref mA, .int (zz ↑ke), .ref mK, .int (zz ↑se), .ref mE, .ref mT, .int (zz ↑tl), .int (zz (↑(a + 2))), .ref mD, .int (zz ↑rp), .ref nP, .ref nW, .int (zz ↑rr), .ref nR, .ref nB, .ref mN, .ref mO, .ref mQ, .int (zz dp), .ref mX]), (mT, aI E 200 tx), (mD, aI E 4 (updI (updI t1 i ((lgM tx tl a) - 48)) i (((10 * ((lgM tx tl a) - 48)) + (lgM tx tl (a + 1))) - 48)))]) fX7_98 0 rfl rfl rfl (Nat.le_of_ble_eq_true rfl) rfl dX7_readNumbers_98 ?_
              have e5 : updI (updI t1 i ((lgM tx tl a) - 48)) i ((10 * ((lgM tx tl a) - 48) + lgM tx tl (a + 1)) - 48) = updI t1 i (10 * (sgF tx tl a - 48) + (sgF tx tl (a + 1) - 48)) := by rw [updI_upd, eL, eL2]; congr 1; omega
              refine RR.eq (ws2 := [(m, ob 7 [.int (zz ↑np), .ref mP, .ref mW, .int (zz ↑nr), .ref mR, .ref mB, .ref mS, .int (zz ↑ac), .ref mA, .int (zz ↑ke), .ref mK, .int (zz ↑se), .ref mE, .ref mT, .int (zz ↑tl), .int (zz (↑(a + 2))), .ref mD, .int (zz ↑rp), .ref nP, .ref nW, .int (zz ↑rr), .ref nR, .ref nB, .ref mN, .ref mO, .ref mQ, .int (zz dp), .ref mX]), (mT, aI E 200 tx), (mD, aI E 4 (updI t1 i (10 * (sgF tx tl a - 48) + (sgF tx tl (a + 1) - 48))))]) rfl rfl rfl (by rw [e5]) ?_
              refine rr_aload_n 0 dX7_readNumbers_101 rfl ?_
              refine rr_aload_n 0 dX7_readNumbers_102 rfl ?_
              refine rr_get fX7_98 0 rfl rfl dX7_readNumbers_103 ?_
              refine rr_callFi (ws2 := [(m, ob 7 [.int (zz ↑np), .ref mP, .ref mW, .int (zz ↑nr), .ref mR, .ref mB, .ref mS, .int (zz ↑ac), .ref mA, .int (zz ↑ke), .ref mK, .int (zz ↑se), .ref mE, .ref mT, .int (zz ↑tl), .int (zz (↑(a + 2))), .ref mD, .int (zz ↑rp), .ref nP, .ref nW, .int (zz ↑rr), .ref nR, .ref nB, .ref mN, .ref mO, .ref mQ, .int (zz dp), .ref mX]), (mT, aI E 200 tx), (mD, aI E 4 (updI t1 i (10 * (sgF tx tl a - 48) + (sgF tx tl (a + 1) - 48))))]) (wr := [(mD, aI E 4 (updI t1 i (10 * (sgF tx tl a - 48) + (sgF tx tl (a + 1) - 48))))]) (call_V (q0 := 0) kX7_101 (c_letterAt E (d + 1) m mP mW mR mB mS mA mK mE mT mD nP nW nR nB mN mO mQ mX np nr ac ke se tl (a + 2) rp rr dp tx (a + 2) htx (by omega)) rfl rfl rfl rfl (by omega) (by decide) (Nat.le_of_ble_eq_true rfl) (Nat.le_of_ble_eq_true rfl) dX7_readNumbers_106) [0, 1] [2] [1, 2, 0] rfl rfl rfl rfl rfl rfl rfl ?_
              refine rr_iload_n 2 dX7_readNumbers_109 rfl ?_
              refine rr_iload_n 1 dX7_readNumbers_110 rfl ?_
              refine rr_iconst dX7_readNumbers_111 ?_
              refine rr_isub dX7_readNumbers_112 ?_
              refine rr_icmp_ge 121 dX7_readNumbers_113 (by decide) (by omega) (by omega) (fun c_5 => ?_) (fun c_5 => ?_)
              · skip
                refine rr_bipush dX7_readNumbers_121 (by decide) ?_
                refine rr_icmp_eq 128 dX7_readNumbers_123 (by decide) (by omega) (by omega) (fun c_6 => ?_) (fun c_6 => ?_)
                · skip
                  refine rr_aload_n 0 dX7_readNumbers_128 rfl ?_
                  refine rr_dup dX7_readNumbers_129 rfl ?_
                  refine rr_get fX7_98 0 rfl rfl dX7_readNumbers_130 ?_
                  refine rr_iconst dX7_readNumbers_133 ?_
                  refine rr_iadd dX7_readNumbers_134 ?_
                  refine rr_put (ws2 := [(m, ob 7 [.int (zz ↑np), .ref mP, .ref mW, .int (zz ↑nr), .ref mR, .ref mB, .ref mS, .int (zz ↑ac), .ref mA, .int (zz ↑ke), .ref mK, .int (zz ↑se), .ref mE, .ref mT, .int (zz ↑tl), .int (zz (↑(a + 3))), .ref mD, .int (zz ↑rp), .ref nP, .ref nW, .int (zz ↑rr), .ref nR, .ref nB, .ref mN, .ref mO, .ref mQ, .int (zz dp), .ref mX]), (mT, aI E 200 tx), (mD, aI E 4 (updI t1 i (10 * (sgF tx tl a - 48) + (sgF tx tl (a + 1) - 48))))]) fX7_98 0 rfl rfl rfl (Nat.le_of_ble_eq_true rfl) rfl dX7_readNumbers_135 ?_
                  refine rr_iinc (lv2 := [(0, .ref m), (1, .int (zz ↑n)), (2, .int (zz (↑(i + 1))))]) 2 dX7_readNumbers_138 rfl (by decide) rfl ?_
                  refine rr_goto 2 dX7_readNumbers_141 (by decide) ?_
                  exact ih (i + 1) (a + 3) (updI t1 i (10 * (sgF tx tl a - 48) + (sgF tx tl (a + 1) - 48))) (by omega) (by omega) (nmM_up hn1 (by omega)) (h4.trans (rds_s (rd1_2 hf hg (by split <;> omega))))
                · skip
                  refine rr_iconst dX7_readNumbers_126 ?_
                  exact rr_iret dX7_readNumbers_127 rfl rfl (oPost_none (h4.trans (rds_n (rd1_2n hf hg (by split <;> omega)))) ⟨_, _, nmM_up hn1 (i := i) (v := (10 * (sgF tx tl a - 48) + (sgF tx tl (a + 1) - 48))) (by omega), rfl⟩)
              · skip
                refine rr_bipush dX7_readNumbers_116 (by decide) ?_
                refine rr_goto 123 dX7_readNumbers_118 (by decide) ?_
                refine rr_icmp_eq 128 dX7_readNumbers_123 (by decide) (by omega) (by omega) (fun c_7 => ?_) (fun c_7 => ?_)
                · skip
                  refine rr_aload_n 0 dX7_readNumbers_128 rfl ?_
                  refine rr_dup dX7_readNumbers_129 rfl ?_
                  refine rr_get fX7_98 0 rfl rfl dX7_readNumbers_130 ?_
                  refine rr_iconst dX7_readNumbers_133 ?_
                  refine rr_iadd dX7_readNumbers_134 ?_
                  refine rr_put (ws2 := [(m, ob 7 [.int (zz ↑np), .ref mP, .ref mW, .int (zz ↑nr), .ref mR, .ref mB, .ref mS, .int (zz ↑ac), .ref mA, .int (zz ↑ke), .ref mK, .int (zz ↑se), .ref mE, .ref mT, .int (zz ↑tl), .int (zz (↑(a + 3))), .ref mD, .int (zz ↑rp), .ref nP, .ref nW, .int (zz ↑rr), .ref nR, .ref nB, .ref mN, .ref mO, .ref mQ, .int (zz dp), .ref mX]), (mT, aI E 200 tx), (mD, aI E 4 (updI t1 i (10 * (sgF tx tl a - 48) + (sgF tx tl (a + 1) - 48))))]) fX7_98 0 rfl rfl rfl (Nat.le_of_ble_eq_true rfl) rfl dX7_readNumbers_135 ?_
                  refine rr_iinc (lv2 := [(0, .ref m), (1, .int (zz ↑n)), (2, .int (zz (↑(i + 1))))]) 2 dX7_readNumbers_138 rfl (by decide) rfl ?_
                  refine rr_goto 2 dX7_readNumbers_141 (by decide) ?_
                  exact ih (i + 1) (a + 3) (updI t1 i (10 * (sgF tx tl a - 48) + (sgF tx tl (a + 1) - 48))) (by omega) (by omega) (nmM_up hn1 (by omega)) (h4.trans (rds_s (rd1_2 hf hg (by split <;> omega))))
                · skip
                  refine rr_iconst dX7_readNumbers_126 ?_
                  exact rr_iret dX7_readNumbers_127 rfl rfl (oPost_none (h4.trans (rds_n (rd1_2n hf hg (by split <;> omega)))) ⟨_, _, nmM_up hn1 (i := i) (v := (10 * (sgF tx tl a - 48) + (sgF tx tl (a + 1) - 48))) (by omega), rfl⟩)
          · skip
            exfalso; omega
      · skip
        have eL : lgM tx tl a = sgF tx tl a := by omega
        refine rr_iload_n 2 dX7_readNumbers_2 rfl ?_
        refine rr_iload_n 1 dX7_readNumbers_3 rfl ?_
        refine rr_icmp_ge 144 dX7_readNumbers_4 (by decide) (by omega) (by omega) (fun c_8 => ?_) (fun c_8 => ?_)
        · skip
          exfalso; omega
        · skip
          refine rr_aload_n 0 dX7_readNumbers_7 rfl ?_
          refine rr_aload_n 0 dX7_readNumbers_8 rfl ?_
          refine rr_get fX7_98 0 rfl rfl dX7_readNumbers_9 ?_
          refine rr_callFi (ws2 := [(m, ob 7 [.int (zz ↑np), .ref mP, .ref mW, .int (zz ↑nr), .ref mR, .ref mB, .ref mS, .int (zz ↑ac), .ref mA, .int (zz ↑ke), .ref mK, .int (zz ↑se), .ref mE, .ref mT, .int (zz ↑tl), .int (zz ↑a), .ref mD, .int (zz ↑rp), .ref nP, .ref nW, .int (zz ↑rr), .ref nR, .ref nB, .ref mN, .ref mO, .ref mQ, .int (zz dp), .ref mX]), (mT, aI E 200 tx), (mD, aI E 4 t1)]) (wr := [(mD, aI E 4 t1)]) (call_V (q0 := 0) kX7_101 (c_letterAt E (d + 1) m mP mW mR mB mS mA mK mE mT mD nP nW nR nB mN mO mQ mX np nr ac ke se tl a rp rr dp tx a htx (by omega)) rfl rfl rfl rfl (by omega) (by decide) (Nat.le_of_ble_eq_true rfl) (Nat.le_of_ble_eq_true rfl) dX7_readNumbers_12) [0, 1] [2] [1, 2, 0] rfl rfl rfl rfl rfl rfl rfl ?_
          refine rr_callFi (ws2 := [(m, ob 7 [.int (zz ↑np), .ref mP, .ref mW, .int (zz ↑nr), .ref mR, .ref mB, .ref mS, .int (zz ↑ac), .ref mA, .int (zz ↑ke), .ref mK, .int (zz ↑se), .ref mE, .ref mT, .int (zz ↑tl), .int (zz ↑a), .ref mD, .int (zz ↑rp), .ref nP, .ref nW, .int (zz ↑rr), .ref nR, .ref nB, .ref mN, .ref mO, .ref mQ, .int (zz dp), .ref mX]), (mT, aI E 200 tx), (mD, aI E 4 t1)]) (wr := [(m, ob 7 [.int (zz ↑np), .ref mP, .ref mW, .int (zz ↑nr), .ref mR, .ref mB, .ref mS, .int (zz ↑ac), .ref mA, .int (zz ↑ke), .ref mK, .int (zz ↑se), .ref mE, .ref mT, .int (zz ↑tl), .int (zz ↑a), .ref mD, .int (zz ↑rp), .ref nP, .ref nW, .int (zz ↑rr), .ref nR, .ref nB, .ref mN, .ref mO, .ref mQ, .int (zz dp), .ref mX]), (mT, aI E 200 tx), (mD, aI E 4 t1)]) (call_S kX7_105 (c_isFigure E (d + 0) (lgM tx tl a) (by omega)) rfl (by omega) (by decide) (Nat.le_of_ble_eq_true rfl) (Nat.le_of_ble_eq_true rfl) dX7_readNumbers_15) [] [0, 1, 2] [0, 1, 2] rfl rfl rfl rfl rfl rfl rfl ?_
          refine rr_if_neD 23 dX7_readNumbers_18 (by decide) (fun c_9 => ?_) (fun c_9 => ?_)
          · skip
            refine rr_aload_n 0 dX7_readNumbers_23 rfl ?_
            refine rr_get fX7_37 0 rfl rfl dX7_readNumbers_24 ?_
            refine rr_iload_n 2 dX7_readNumbers_27 rfl ?_
            refine rr_aload_n 0 dX7_readNumbers_28 rfl ?_
            refine rr_aload_n 0 dX7_readNumbers_29 rfl ?_
            refine rr_get fX7_98 0 rfl rfl dX7_readNumbers_30 ?_
            refine rr_callFi (ws2 := [(m, ob 7 [.int (zz ↑np), .ref mP, .ref mW, .int (zz ↑nr), .ref mR, .ref mB, .ref mS, .int (zz ↑ac), .ref mA, .int (zz ↑ke), .ref mK, .int (zz ↑se), .ref mE, .ref mT, .int (zz ↑tl), .int (zz ↑a), .ref mD, .int (zz ↑rp), .ref nP, .ref nW, .int (zz ↑rr), .ref nR, .ref nB, .ref mN, .ref mO, .ref mQ, .int (zz dp), .ref mX]), (mT, aI E 200 tx), (mD, aI E 4 t1)]) (wr := [(mD, aI E 4 t1)]) (call_V (q0 := 0) kX7_101 (c_letterAt E (d + 1) m mP mW mR mB mS mA mK mE mT mD nP nW nR nB mN mO mQ mX np nr ac ke se tl a rp rr dp tx a htx (by omega)) rfl rfl rfl rfl (by omega) (by decide) (Nat.le_of_ble_eq_true rfl) (Nat.le_of_ble_eq_true rfl) dX7_readNumbers_33) [0, 1] [2] [1, 2, 0] rfl rfl rfl rfl rfl rfl rfl ?_
            refine rr_bipush dX7_readNumbers_36 (by decide) ?_
            refine rr_isub dX7_readNumbers_38 ?_
            refine rr_iast (ws2 := [(m, ob 7 [.int (zz ↑np), .ref mP, .ref mW, .int (zz ↑nr), .ref mR, .ref mB, .ref mS, .int (zz ↑ac), .ref mA, .int (zz ↑ke), .ref mK, .int (zz ↑se), .ref mE, .ref mT, .int (zz ↑tl), .int (zz ↑a), .ref mD, .int (zz ↑rp), .ref nP, .ref nW, .int (zz ↑rr), .ref nR, .ref nB, .ref mN, .ref mO, .ref mQ, .int (zz dp), .ref mX]), (mT, aI E 200 tx), (mD, aI E 4 (updI t1 i ((lgM tx tl a) - 48)))]) 2 i rfl rfl (by omega) (by omega) rfl dX7_readNumbers_39 ?_
            refine rr_aload_n 0 dX7_readNumbers_40 rfl ?_
            refine rr_dup dX7_readNumbers_41 rfl ?_
            refine rr_get fX7_98 0 rfl rfl dX7_readNumbers_42 ?_
            refine rr_iconst dX7_readNumbers_45 ?_
            refine rr_iadd dX7_readNumbers_46 ?_
            refine rr_put (ws2 := [(m, ob 7 [.int (zz ↑np), .ref mP, .ref mW, .int (zz ↑nr), .ref mR, .ref mB, .ref mS, .int (zz ↑ac), .ref mA, .int (zz ↑ke), .ref mK, .int (zz ↑se), .ref mE, .ref mT, .int (zz ↑tl), .int (zz (↑(a + 1))), .ref mD, .int (zz ↑rp), .ref nP, .ref nW, .int (zz ↑rr), .ref nR, .ref nB, .ref mN, .ref mO, .ref mQ, .int (zz dp), .ref mX]), (mT, aI E 200 tx), (mD, aI E 4 (updI t1 i ((lgM tx tl a) - 48)))]) fX7_98 0 rfl rfl rfl (Nat.le_of_ble_eq_true rfl) rfl dX7_readNumbers_47 ?_
            refine rr_aload_n 0 dX7_readNumbers_50 rfl ?_
            refine rr_aload_n 0 dX7_readNumbers_51 rfl ?_
            refine rr_get fX7_98 0 rfl rfl dX7_readNumbers_52 ?_
            refine rr_callFi (ws2 := [(m, ob 7 [.int (zz ↑np), .ref mP, .ref mW, .int (zz ↑nr), .ref mR, .ref mB, .ref mS, .int (zz ↑ac), .ref mA, .int (zz ↑ke), .ref mK, .int (zz ↑se), .ref mE, .ref mT, .int (zz ↑tl), .int (zz (↑(a + 1))), .ref mD, .int (zz ↑rp), .ref nP, .ref nW, .int (zz ↑rr), .ref nR, .ref nB, .ref mN, .ref mO, .ref mQ, .int (zz dp), .ref mX]), (mT, aI E 200 tx), (mD, aI E 4 (updI t1 i ((lgM tx tl a) - 48)))]) (wr := [(mD, aI E 4 (updI t1 i ((lgM tx tl a) - 48)))]) (call_V (q0 := 0) kX7_101 (c_letterAt E (d + 1) m mP mW mR mB mS mA mK mE mT mD nP nW nR nB mN mO mQ mX np nr ac ke se tl (a + 1) rp rr dp tx (a + 1) htx (by omega)) rfl rfl rfl rfl (by omega) (by decide) (Nat.le_of_ble_eq_true rfl) (Nat.le_of_ble_eq_true rfl) dX7_readNumbers_55) [0, 1] [2] [1, 2, 0] rfl rfl rfl rfl rfl rfl rfl ?_
            refine rr_callFi (ws2 := [(m, ob 7 [.int (zz ↑np), .ref mP, .ref mW, .int (zz ↑nr), .ref mR, .ref mB, .ref mS, .int (zz ↑ac), .ref mA, .int (zz ↑ke), .ref mK, .int (zz ↑se), .ref mE, .ref mT, .int (zz ↑tl), .int (zz (↑(a + 1))), .ref mD, .int (zz ↑rp), .ref nP, .ref nW, .int (zz ↑rr), .ref nR, .ref nB, .ref mN, .ref mO, .ref mQ, .int (zz dp), .ref mX]), (mT, aI E 200 tx), (mD, aI E 4 (updI t1 i ((lgM tx tl a) - 48)))]) (wr := [(m, ob 7 [.int (zz ↑np), .ref mP, .ref mW, .int (zz ↑nr), .ref mR, .ref mB, .ref mS, .int (zz ↑ac), .ref mA, .int (zz ↑ke), .ref mK, .int (zz ↑se), .ref mE, .ref mT, .int (zz ↑tl), .int (zz (↑(a + 1))), .ref mD, .int (zz ↑rp), .ref nP, .ref nW, .int (zz ↑rr), .ref nR, .ref nB, .ref mN, .ref mO, .ref mQ, .int (zz dp), .ref mX]), (mT, aI E 200 tx), (mD, aI E 4 (updI t1 i ((lgM tx tl a) - 48)))]) (call_S kX7_105 (c_isFigure E (d + 0) (lgM tx tl (a + 1)) (by omega)) rfl (by omega) (by decide) (Nat.le_of_ble_eq_true rfl) (Nat.le_of_ble_eq_true rfl) dX7_readNumbers_58) [] [0, 1, 2] [0, 1, 2] rfl rfl rfl rfl rfl rfl rfl ?_
            refine rr_if_eqD 101 dX7_readNumbers_61 (by decide) (fun c_10 => ?_) (fun c_10 => ?_)
            · skip
              refine RR.eq (ws2 := [(m, ob 7 [.int (zz ↑np), .ref mP, .ref mW, .int (zz ↑nr), .ref mR, .ref mB, .ref mS, .int (zz ↑ac), .ref mA, .int (zz ↑ke), .ref mK, .int (zz ↑se), .ref mE, .ref mT, .int (zz ↑tl), .int (zz (↑(a + 1))), .ref mD, .int (zz ↑rp), .ref nP, .ref nW, .int (zz ↑rr), .ref nR, .ref nB, .ref mN, .ref mO, .ref mQ, .int (zz dp), .ref mX]), (mT, aI E 200 tx), (mD, aI E 4 (updI t1 i (sgF tx tl a - 48)))]) rfl rfl rfl (by rw [eL]) ?_
              refine rr_aload_n 0 dX7_readNumbers_101 rfl ?_
              refine rr_aload_n 0 dX7_readNumbers_102 rfl ?_
              refine rr_get fX7_98 0 rfl rfl dX7_readNumbers_103 ?_
              refine rr_callFi (ws2 := [(m, ob 7 [.int (zz ↑np), .ref mP, .ref mW, .int (zz ↑nr), .ref mR, .ref mB, .ref mS, .int (zz ↑ac), .ref mA, .int (zz ↑ke), .ref mK, .int (zz ↑se), .ref mE, .ref mT, .int (zz ↑tl), .int (zz (↑(a + 1))), .ref mD, .int (zz ↑rp), .ref nP, .ref nW, .int (zz ↑rr), .ref nR, .ref nB, .ref mN, .ref mO, .ref mQ, .int (zz dp), .ref mX]), (mT, aI E 200 tx), (mD, aI E 4 (updI t1 i (sgF tx tl a - 48)))]) (wr := [(mD, aI E 4 (updI t1 i (sgF tx tl a - 48)))]) (call_V (q0 := 0) kX7_101 (c_letterAt E (d + 1) m mP mW mR mB mS mA mK mE mT mD nP nW nR nB mN mO mQ mX np nr ac ke se tl (a + 1) rp rr dp tx (a + 1) htx (by omega)) rfl rfl rfl rfl (by omega) (by decide) (Nat.le_of_ble_eq_true rfl) (Nat.le_of_ble_eq_true rfl) dX7_readNumbers_106) [0, 1] [2] [1, 2, 0] rfl rfl rfl rfl rfl rfl rfl ?_
              refine rr_iload_n 2 dX7_readNumbers_109 rfl ?_
              refine rr_iload_n 1 dX7_readNumbers_110 rfl ?_
              refine rr_iconst dX7_readNumbers_111 ?_
              refine rr_isub dX7_readNumbers_112 ?_
              refine rr_icmp_ge 121 dX7_readNumbers_113 (by decide) (by omega) (by omega) (fun c_11 => ?_) (fun c_11 => ?_)
              · skip
                refine rr_bipush dX7_readNumbers_121 (by decide) ?_
                refine rr_icmp_eq 128 dX7_readNumbers_123 (by decide) (by omega) (by omega) (fun c_12 => ?_) (fun c_12 => ?_)
                · skip
                  refine rr_aload_n 0 dX7_readNumbers_128 rfl ?_
                  refine rr_dup dX7_readNumbers_129 rfl ?_
                  refine rr_get fX7_98 0 rfl rfl dX7_readNumbers_130 ?_
                  refine rr_iconst dX7_readNumbers_133 ?_
                  refine rr_iadd dX7_readNumbers_134 ?_
                  refine rr_put (ws2 := [(m, ob 7 [.int (zz ↑np), .ref mP, .ref mW, .int (zz ↑nr), .ref mR, .ref mB, .ref mS, .int (zz ↑ac), .ref mA, .int (zz ↑ke), .ref mK, .int (zz ↑se), .ref mE, .ref mT, .int (zz ↑tl), .int (zz (↑(a + 2))), .ref mD, .int (zz ↑rp), .ref nP, .ref nW, .int (zz ↑rr), .ref nR, .ref nB, .ref mN, .ref mO, .ref mQ, .int (zz dp), .ref mX]), (mT, aI E 200 tx), (mD, aI E 4 (updI t1 i (sgF tx tl a - 48)))]) fX7_98 0 rfl rfl rfl (Nat.le_of_ble_eq_true rfl) rfl dX7_readNumbers_135 ?_
                  refine rr_iinc (lv2 := [(0, .ref m), (1, .int (zz ↑n)), (2, .int (zz (↑(i + 1))))]) 2 dX7_readNumbers_138 rfl (by decide) rfl ?_
                  refine rr_goto 2 dX7_readNumbers_141 (by decide) ?_
                  exact ih (i + 1) (a + 2) (updI t1 i (sgF tx tl a - 48)) (by omega) (by omega) (nmM_up hn1 (by omega)) (h4.trans (rds_s (rd1_1 hf hg (by split <;> omega))))
                · skip
                  refine rr_iconst dX7_readNumbers_126 ?_
                  exact rr_iret dX7_readNumbers_127 rfl rfl (oPost_none (h4.trans (rds_n (rd1_1n hf hg (by split <;> omega)))) ⟨_, _, nmM_up hn1 (i := i) (v := (sgF tx tl a - 48)) (by omega), rfl⟩)
              · skip
                refine rr_bipush dX7_readNumbers_116 (by decide) ?_
                refine rr_goto 123 dX7_readNumbers_118 (by decide) ?_
                refine rr_icmp_eq 128 dX7_readNumbers_123 (by decide) (by omega) (by omega) (fun c_13 => ?_) (fun c_13 => ?_)
                · skip
                  refine rr_aload_n 0 dX7_readNumbers_128 rfl ?_
                  refine rr_dup dX7_readNumbers_129 rfl ?_
                  refine rr_get fX7_98 0 rfl rfl dX7_readNumbers_130 ?_
                  refine rr_iconst dX7_readNumbers_133 ?_
                  refine rr_iadd dX7_readNumbers_134 ?_
                  refine rr_put (ws2 := [(m, ob 7 [.int (zz ↑np), .ref mP, .ref mW, .int (zz ↑nr), .ref mR, .ref mB, .ref mS, .int (zz ↑ac), .ref mA, .int (zz ↑ke), .ref mK, .int (zz ↑se), .ref mE, .ref mT, .int (zz ↑tl), .int (zz (↑(a + 2))), .ref mD, .int (zz ↑rp), .ref nP, .ref nW, .int (zz ↑rr), .ref nR, .ref nB, .ref mN, .ref mO, .ref mQ, .int (zz dp), .ref mX]), (mT, aI E 200 tx), (mD, aI E 4 (updI t1 i (sgF tx tl a - 48)))]) fX7_98 0 rfl rfl rfl (Nat.le_of_ble_eq_true rfl) rfl dX7_readNumbers_135 ?_
                  refine rr_iinc (lv2 := [(0, .ref m), (1, .int (zz ↑n)), (2, .int (zz (↑(i + 1))))]) 2 dX7_readNumbers_138 rfl (by decide) rfl ?_
                  refine rr_goto 2 dX7_readNumbers_141 (by decide) ?_
                  exact ih (i + 1) (a + 2) (updI t1 i (sgF tx tl a - 48)) (by omega) (by omega) (nmM_up hn1 (by omega)) (h4.trans (rds_s (rd1_1 hf hg (by split <;> omega))))
                · skip
                  refine rr_iconst dX7_readNumbers_126 ?_
                  exact rr_iret dX7_readNumbers_127 rfl rfl (oPost_none (h4.trans (rds_n (rd1_1n hf hg (by split <;> omega)))) ⟨_, _, nmM_up hn1 (i := i) (v := (sgF tx tl a - 48)) (by omega), rfl⟩)
            · skip
              exfalso; omega
          · skip
            exfalso; omega
      · skip
        refine rr_iload_n 2 dX7_readNumbers_2 rfl ?_
        refine rr_iload_n 1 dX7_readNumbers_3 rfl ?_
        refine rr_icmp_ge 144 dX7_readNumbers_4 (by decide) (by omega) (by omega) (fun c_14 => ?_) (fun c_14 => ?_)
        · skip
          exfalso; omega
        · skip
          refine rr_aload_n 0 dX7_readNumbers_7 rfl ?_
          refine rr_aload_n 0 dX7_readNumbers_8 rfl ?_
          refine rr_get fX7_98 0 rfl rfl dX7_readNumbers_9 ?_
          refine rr_callFi (ws2 := [(m, ob 7 [.int (zz ↑np), .ref mP, .ref mW, .int (zz ↑nr), .ref mR, .ref mB, .ref mS, .int (zz ↑ac), .ref mA, .int (zz ↑ke), .ref mK, .int (zz ↑se), .ref mE, .ref mT, .int (zz ↑tl), .int (zz ↑a), .ref mD, .int (zz ↑rp), .ref nP, .ref nW, .int (zz ↑rr), .ref nR, .ref nB, .ref mN, .ref mO, .ref mQ, .int (zz dp), .ref mX]), (mT, aI E 200 tx), (mD, aI E 4 t1)]) (wr := [(mD, aI E 4 t1)]) (call_V (q0 := 0) kX7_101 (c_letterAt E (d + 1) m mP mW mR mB mS mA mK mE mT mD nP nW nR nB mN mO mQ mX np nr ac ke se tl a rp rr dp tx a htx (by omega)) rfl rfl rfl rfl (by omega) (by decide) (Nat.le_of_ble_eq_true rfl) (Nat.le_of_ble_eq_true rfl) dX7_readNumbers_12) [0, 1] [2] [1, 2, 0] rfl rfl rfl rfl rfl rfl rfl ?_
          refine rr_callFi (ws2 := [(m, ob 7 [.int (zz ↑np), .ref mP, .ref mW, .int (zz ↑nr), .ref mR, .ref mB, .ref mS, .int (zz ↑ac), .ref mA, .int (zz ↑ke), .ref mK, .int (zz ↑se), .ref mE, .ref mT, .int (zz ↑tl), .int (zz ↑a), .ref mD, .int (zz ↑rp), .ref nP, .ref nW, .int (zz ↑rr), .ref nR, .ref nB, .ref mN, .ref mO, .ref mQ, .int (zz dp), .ref mX]), (mT, aI E 200 tx), (mD, aI E 4 t1)]) (wr := [(m, ob 7 [.int (zz ↑np), .ref mP, .ref mW, .int (zz ↑nr), .ref mR, .ref mB, .ref mS, .int (zz ↑ac), .ref mA, .int (zz ↑ke), .ref mK, .int (zz ↑se), .ref mE, .ref mT, .int (zz ↑tl), .int (zz ↑a), .ref mD, .int (zz ↑rp), .ref nP, .ref nW, .int (zz ↑rr), .ref nR, .ref nB, .ref mN, .ref mO, .ref mQ, .int (zz dp), .ref mX]), (mT, aI E 200 tx), (mD, aI E 4 t1)]) (call_S kX7_105 (c_isFigure E (d + 0) (lgM tx tl a) (by omega)) rfl (by omega) (by decide) (Nat.le_of_ble_eq_true rfl) (Nat.le_of_ble_eq_true rfl) dX7_readNumbers_15) [] [0, 1, 2] [0, 1, 2] rfl rfl rfl rfl rfl rfl rfl ?_
          refine rr_if_neD 23 dX7_readNumbers_18 (by decide) (fun c_15 => ?_) (fun c_15 => ?_)
          · skip
            exfalso; omega
          · skip
            refine rr_iconst dX7_readNumbers_21 ?_
            exact rr_iret dX7_readNumbers_22 rfl rfl (oPost_none (h4.trans (rds_n (rd1_0 hf))) ⟨_, _, hn1, rfl⟩)
  refine rr_iconst dX7_readNumbers_0 ?_
  refine rr_istore_n (lv2 := [(0, .ref m), (1, .int (zz ↑n)), (2, .int (zz 0))]) dX7_readNumbers_1 (by decide) rfl ?_
  exact lp n 0 at_ t (by omega) (by omega) hnm rfl
set_option maxRecDepth 100000 in
set_option maxHeartbeats 400000 in
theorem c_clearTold (E : Ev) (d : Nat) (m mP mW mR mB mS mA mK mE mT mD nP nW nR nB mN mO mQ mX : Nat) (np nr ac ke se tl at_ rp rr : Nat) (dp : Int) (wn bg : Nat → Int) : SP E mX7_clearTold (d + 0) 0 0 [.ref m] [(m, ob 7 [.int (zz ↑np), .ref mP, .ref mW, .int (zz ↑nr), .ref mR, .ref mB, .ref mS, .int (zz ↑ac), .ref mA, .int (zz ↑ke), .ref mK, .int (zz ↑se), .ref mE, .ref mT, .int (zz ↑tl), .int (zz ↑at_), .ref mD, .int (zz ↑rp), .ref nP, .ref nW, .int (zz ↑rr), .ref nR, .ref nB, .ref mN, .ref mO, .ref mQ, .int (zz dp), .ref mX]), (nW, aI E 10 wn), (nB, aI E 7 bg)] (FP none [(m, ob 7 [.int (zz ↑np), .ref mP, .ref mW, .int (zz ↑nr), .ref mR, .ref mB, .ref mS, .int (zz ↑ac), .ref mA, .int (zz ↑ke), .ref mK, .int (zz ↑se), .ref mE, .ref mT, .int (zz ↑tl), .int (zz ↑at_), .ref mD, .int (zz 0), .ref nP, .ref nW, .int (zz 0), .ref nR, .ref nB, .ref mN, .ref mO, .ref mQ, .int (zz dp), .ref mX]), (nW, aI E 10 (fillI wn 10 4)), (nB, aI E 7 (updI (updI (updI (updI (updI (updI (updI bg 0 5) 1 5) 2 3) 3 0) 4 0) 5 1) 6 (-1)))]) := by
  show RR E mX7_clearTold (d + 0) 0 0 0 [(0, .ref m)] [] [(m, ob 7 [.int (zz ↑np), .ref mP, .ref mW, .int (zz ↑nr), .ref mR, .ref mB, .ref mS, .int (zz ↑ac), .ref mA, .int (zz ↑ke), .ref mK, .int (zz ↑se), .ref mE, .ref mT, .int (zz ↑tl), .int (zz ↑at_), .ref mD, .int (zz ↑rp), .ref nP, .ref nW, .int (zz ↑rr), .ref nR, .ref nB, .ref mN, .ref mO, .ref mQ, .int (zz dp), .ref mX]), (nW, aI E 10 wn), (nB, aI E 7 bg)] (FP none [(m, ob 7 [.int (zz ↑np), .ref mP, .ref mW, .int (zz ↑nr), .ref mR, .ref mB, .ref mS, .int (zz ↑ac), .ref mA, .int (zz ↑ke), .ref mK, .int (zz ↑se), .ref mE, .ref mT, .int (zz ↑tl), .int (zz ↑at_), .ref mD, .int (zz 0), .ref nP, .ref nW, .int (zz 0), .ref nR, .ref nB, .ref mN, .ref mO, .ref mQ, .int (zz dp), .ref mX]), (nW, aI E 10 (fillI wn 10 4)), (nB, aI E 7 (updI (updI (updI (updI (updI (updI (updI bg 0 5) 1 5) 2 3) 3 0) 4 0) 5 1) 6 (-1)))])
  have lp : ∀ (n i : Nat), i + n = 10 → RR E mX7_clearTold (d + 0) 0 0 12 [(0, .ref m), (1, .int (zz ↑i))] [] [(m, ob 7 [.int (zz ↑np), .ref mP, .ref mW, .int (zz ↑nr), .ref mR, .ref mB, .ref mS, .int (zz ↑ac), .ref mA, .int (zz ↑ke), .ref mK, .int (zz ↑se), .ref mE, .ref mT, .int (zz ↑tl), .int (zz ↑at_), .ref mD, .int (zz 0), .ref nP, .ref nW, .int (zz 0), .ref nR, .ref nB, .ref mN, .ref mO, .ref mQ, .int (zz dp), .ref mX]), (nW, aI E 10 (fillI wn i 4)), (nB, aI E 7 bg)] (FP none [(m, ob 7 [.int (zz ↑np), .ref mP, .ref mW, .int (zz ↑nr), .ref mR, .ref mB, .ref mS, .int (zz ↑ac), .ref mA, .int (zz ↑ke), .ref mK, .int (zz ↑se), .ref mE, .ref mT, .int (zz ↑tl), .int (zz ↑at_), .ref mD, .int (zz 0), .ref nP, .ref nW, .int (zz 0), .ref nR, .ref nB, .ref mN, .ref mO, .ref mQ, .int (zz dp), .ref mX]), (nW, aI E 10 (fillI wn 10 4)), (nB, aI E 7 (updI (updI (updI (updI (updI (updI (updI bg 0 5) 1 5) 2 3) 3 0) 4 0) 5 1) 6 (-1)))]) := by
    intro n
    induction n with
    | zero =>
      intro i h1
      obtain rfl : i = 10 := by omega
      refine rr_iload_n 1 dX7_clearTold_12 rfl ?_
      refine rr_bipush dX7_clearTold_13 (by decide) ?_
      refine rr_icmp_gt 31 dX7_clearTold_15 (by decide) (by omega) (by omega) (fun c_1 => ?_) (fun c_1 => ?_)
      · skip
        refine rr_aload_n 0 dX7_clearTold_31 rfl ?_
        refine rr_get fX7_49 0 rfl rfl dX7_clearTold_32 ?_
        refine rr_iconst dX7_clearTold_35 ?_
        refine rr_iconst dX7_clearTold_36 ?_
        refine rr_iast (ws2 := [(m, ob 7 [.int (zz ↑np), .ref mP, .ref mW, .int (zz ↑nr), .ref mR, .ref mB, .ref mS, .int (zz ↑ac), .ref mA, .int (zz ↑ke), .ref mK, .int (zz ↑se), .ref mE, .ref mT, .int (zz ↑tl), .int (zz ↑at_), .ref mD, .int (zz 0), .ref nP, .ref nW, .int (zz 0), .ref nR, .ref nB, .ref mN, .ref mO, .ref mQ, .int (zz dp), .ref mX]), (nW, aI E 10 (fillI wn 10 4)), (nB, aI E 7 (updI bg 0 5))]) 2 0 rfl rfl (by omega) (by omega) rfl dX7_clearTold_37 ?_
        refine rr_aload_n 0 dX7_clearTold_38 rfl ?_
        refine rr_get fX7_49 0 rfl rfl dX7_clearTold_39 ?_
        refine rr_iconst dX7_clearTold_42 ?_
        refine rr_iconst dX7_clearTold_43 ?_
        refine rr_iast (ws2 := [(m, ob 7 [.int (zz ↑np), .ref mP, .ref mW, .int (zz ↑nr), .ref mR, .ref mB, .ref mS, .int (zz ↑ac), .ref mA, .int (zz ↑ke), .ref mK, .int (zz ↑se), .ref mE, .ref mT, .int (zz ↑tl), .int (zz ↑at_), .ref mD, .int (zz 0), .ref nP, .ref nW, .int (zz 0), .ref nR, .ref nB, .ref mN, .ref mO, .ref mQ, .int (zz dp), .ref mX]), (nW, aI E 10 (fillI wn 10 4)), (nB, aI E 7 (updI (updI bg 0 5) 1 5))]) 2 1 rfl rfl (by omega) (by omega) rfl dX7_clearTold_44 ?_
        refine rr_aload_n 0 dX7_clearTold_45 rfl ?_
        refine rr_get fX7_49 0 rfl rfl dX7_clearTold_46 ?_
        refine rr_iconst dX7_clearTold_49 ?_
        refine rr_iconst dX7_clearTold_50 ?_
        refine rr_iast (ws2 := [(m, ob 7 [.int (zz ↑np), .ref mP, .ref mW, .int (zz ↑nr), .ref mR, .ref mB, .ref mS, .int (zz ↑ac), .ref mA, .int (zz ↑ke), .ref mK, .int (zz ↑se), .ref mE, .ref mT, .int (zz ↑tl), .int (zz ↑at_), .ref mD, .int (zz 0), .ref nP, .ref nW, .int (zz 0), .ref nR, .ref nB, .ref mN, .ref mO, .ref mQ, .int (zz dp), .ref mX]), (nW, aI E 10 (fillI wn 10 4)), (nB, aI E 7 (updI (updI (updI bg 0 5) 1 5) 2 3))]) 2 2 rfl rfl (by omega) (by omega) rfl dX7_clearTold_51 ?_
        refine rr_aload_n 0 dX7_clearTold_52 rfl ?_
        refine rr_get fX7_49 0 rfl rfl dX7_clearTold_53 ?_
        refine rr_iconst dX7_clearTold_56 ?_
        refine rr_iconst dX7_clearTold_57 ?_
        refine rr_iast (ws2 := [(m, ob 7 [.int (zz ↑np), .ref mP, .ref mW, .int (zz ↑nr), .ref mR, .ref mB, .ref mS, .int (zz ↑ac), .ref mA, .int (zz ↑ke), .ref mK, .int (zz ↑se), .ref mE, .ref mT, .int (zz ↑tl), .int (zz ↑at_), .ref mD, .int (zz 0), .ref nP, .ref nW, .int (zz 0), .ref nR, .ref nB, .ref mN, .ref mO, .ref mQ, .int (zz dp), .ref mX]), (nW, aI E 10 (fillI wn 10 4)), (nB, aI E 7 (updI (updI (updI (updI bg 0 5) 1 5) 2 3) 3 0))]) 2 3 rfl rfl (by omega) (by omega) rfl dX7_clearTold_58 ?_
        refine rr_aload_n 0 dX7_clearTold_59 rfl ?_
        refine rr_get fX7_49 0 rfl rfl dX7_clearTold_60 ?_
        refine rr_iconst dX7_clearTold_63 ?_
        refine rr_iconst dX7_clearTold_64 ?_
        refine rr_iast (ws2 := [(m, ob 7 [.int (zz ↑np), .ref mP, .ref mW, .int (zz ↑nr), .ref mR, .ref mB, .ref mS, .int (zz ↑ac), .ref mA, .int (zz ↑ke), .ref mK, .int (zz ↑se), .ref mE, .ref mT, .int (zz ↑tl), .int (zz ↑at_), .ref mD, .int (zz 0), .ref nP, .ref nW, .int (zz 0), .ref nR, .ref nB, .ref mN, .ref mO, .ref mQ, .int (zz dp), .ref mX]), (nW, aI E 10 (fillI wn 10 4)), (nB, aI E 7 (updI (updI (updI (updI (updI bg 0 5) 1 5) 2 3) 3 0) 4 0))]) 2 4 rfl rfl (by omega) (by omega) rfl dX7_clearTold_65 ?_
        refine rr_aload_n 0 dX7_clearTold_66 rfl ?_
        refine rr_get fX7_49 0 rfl rfl dX7_clearTold_67 ?_
        refine rr_iconst dX7_clearTold_70 ?_
        refine rr_iconst dX7_clearTold_71 ?_
        refine rr_iast (ws2 := [(m, ob 7 [.int (zz ↑np), .ref mP, .ref mW, .int (zz ↑nr), .ref mR, .ref mB, .ref mS, .int (zz ↑ac), .ref mA, .int (zz ↑ke), .ref mK, .int (zz ↑se), .ref mE, .ref mT, .int (zz ↑tl), .int (zz ↑at_), .ref mD, .int (zz 0), .ref nP, .ref nW, .int (zz 0), .ref nR, .ref nB, .ref mN, .ref mO, .ref mQ, .int (zz dp), .ref mX]), (nW, aI E 10 (fillI wn 10 4)), (nB, aI E 7 (updI (updI (updI (updI (updI (updI bg 0 5) 1 5) 2 3) 3 0) 4 0) 5 1))]) 2 5 rfl rfl (by omega) (by omega) rfl dX7_clearTold_72 ?_
        refine rr_aload_n 0 dX7_clearTold_73 rfl ?_
        refine rr_get fX7_49 0 rfl rfl dX7_clearTold_74 ?_
        refine rr_bipush dX7_clearTold_77 (by decide) ?_
        refine rr_iconst dX7_clearTold_79 ?_
        refine rr_iast (ws2 := [(m, ob 7 [.int (zz ↑np), .ref mP, .ref mW, .int (zz ↑nr), .ref mR, .ref mB, .ref mS, .int (zz ↑ac), .ref mA, .int (zz ↑ke), .ref mK, .int (zz ↑se), .ref mE, .ref mT, .int (zz ↑tl), .int (zz ↑at_), .ref mD, .int (zz 0), .ref nP, .ref nW, .int (zz 0), .ref nR, .ref nB, .ref mN, .ref mO, .ref mQ, .int (zz dp), .ref mX]), (nW, aI E 10 (fillI wn 10 4)), (nB, aI E 7 (updI (updI (updI (updI (updI (updI (updI bg 0 5) 1 5) 2 3) 3 0) 4 0) 5 1) 6 (-1)))]) 2 6 rfl rfl (by omega) (by omega) rfl dX7_clearTold_80 ?_
        exact rr_ret dX7_clearTold_81 rfl ⟨rfl, rfl⟩
      · skip
        exfalso; omega
    | succ n ih =>
      intro i h1
      refine rr_iload_n 1 dX7_clearTold_12 rfl ?_
      refine rr_bipush dX7_clearTold_13 (by decide) ?_
      refine rr_icmp_gt 31 dX7_clearTold_15 (by decide) (by omega) (by omega) (fun c_2 => ?_) (fun c_2 => ?_)
      · skip
        exfalso; omega
      · skip
        refine rr_aload_n 0 dX7_clearTold_18 rfl ?_
        refine rr_get fX7_43 0 rfl rfl dX7_clearTold_19 ?_
        refine rr_iload_n 1 dX7_clearTold_22 rfl ?_
        refine rr_iconst dX7_clearTold_23 ?_
        refine rr_iast (ws2 := [(m, ob 7 [.int (zz ↑np), .ref mP, .ref mW, .int (zz ↑nr), .ref mR, .ref mB, .ref mS, .int (zz ↑ac), .ref mA, .int (zz ↑ke), .ref mK, .int (zz ↑se), .ref mE, .ref mT, .int (zz ↑tl), .int (zz ↑at_), .ref mD, .int (zz 0), .ref nP, .ref nW, .int (zz 0), .ref nR, .ref nB, .ref mN, .ref mO, .ref mQ, .int (zz dp), .ref mX]), (nW, aI E 10 (updI (fillI wn i 4) i 4)), (nB, aI E 7 bg)]) 1 i rfl rfl (by omega) (by omega) rfl dX7_clearTold_24 ?_
        refine rr_iinc (lv2 := [(0, .ref m), (1, .int (zz (↑(i + 1))))]) 1 dX7_clearTold_25 rfl (by decide) rfl ?_
        refine rr_goto 12 dX7_clearTold_28 (by decide) ?_
        refine RR.eq (ws2 := [(m, ob 7 [.int (zz ↑np), .ref mP, .ref mW, .int (zz ↑nr), .ref mR, .ref mB, .ref mS, .int (zz ↑ac), .ref mA, .int (zz ↑ke), .ref mK, .int (zz ↑se), .ref mE, .ref mT, .int (zz ↑tl), .int (zz ↑at_), .ref mD, .int (zz 0), .ref nP, .ref nW, .int (zz 0), .ref nR, .ref nB, .ref mN, .ref mO, .ref mQ, .int (zz dp), .ref mX]), (nW, aI E 10 (fillI wn (i + 1) 4)), (nB, aI E 7 bg)]) rfl rfl rfl (by rw [fillI_succ]) ?_
        exact ih (i + 1) (by omega)
  refine rr_aload_n 0 dX7_clearTold_0 rfl ?_
  refine rr_iconst dX7_clearTold_1 ?_
  refine rr_put (ws2 := [(m, ob 7 [.int (zz ↑np), .ref mP, .ref mW, .int (zz ↑nr), .ref mR, .ref mB, .ref mS, .int (zz ↑ac), .ref mA, .int (zz ↑ke), .ref mK, .int (zz ↑se), .ref mE, .ref mT, .int (zz ↑tl), .int (zz ↑at_), .ref mD, .int (zz 0), .ref nP, .ref nW, .int (zz ↑rr), .ref nR, .ref nB, .ref mN, .ref mO, .ref mQ, .int (zz dp), .ref mX]), (nW, aI E 10 wn), (nB, aI E 7 bg)]) fX7_78 0 rfl rfl rfl (Nat.le_of_ble_eq_true rfl) rfl dX7_clearTold_2 ?_
  refine rr_aload_n 0 dX7_clearTold_5 rfl ?_
  refine rr_iconst dX7_clearTold_6 ?_
  refine rr_put (ws2 := [(m, ob 7 [.int (zz ↑np), .ref mP, .ref mW, .int (zz ↑nr), .ref mR, .ref mB, .ref mS, .int (zz ↑ac), .ref mA, .int (zz ↑ke), .ref mK, .int (zz ↑se), .ref mE, .ref mT, .int (zz ↑tl), .int (zz ↑at_), .ref mD, .int (zz 0), .ref nP, .ref nW, .int (zz 0), .ref nR, .ref nB, .ref mN, .ref mO, .ref mQ, .int (zz dp), .ref mX]), (nW, aI E 10 wn), (nB, aI E 7 bg)]) fX7_82 0 rfl rfl rfl (Nat.le_of_ble_eq_true rfl) rfl dX7_clearTold_7 ?_
  refine rr_iconst dX7_clearTold_10 ?_
  refine rr_istore_n (lv2 := [(0, .ref m), (1, .int (zz 0))]) dX7_clearTold_11 (by decide) rfl ?_
  refine RR.eq (ws2 := [(m, ob 7 [.int (zz ↑np), .ref mP, .ref mW, .int (zz ↑nr), .ref mR, .ref mB, .ref mS, .int (zz ↑ac), .ref mA, .int (zz ↑ke), .ref mK, .int (zz ↑se), .ref mE, .ref mT, .int (zz ↑tl), .int (zz ↑at_), .ref mD, .int (zz 0), .ref nP, .ref nW, .int (zz 0), .ref nR, .ref nB, .ref mN, .ref mO, .ref mQ, .int (zz dp), .ref mX]), (nW, aI E 10 (fillI wn 0 4)), (nB, aI E 7 bg)]) rfl rfl rfl (by rw [fillI_0]) ?_
  exact lp 10 0 (by omega)
set_option maxRecDepth 100000 in
set_option maxHeartbeats 400000 in
theorem c_tellsPeg (E : Ev) (d : Nat) (m mP mW mR mB mS mA mK mE mT mD nP nW nR nB mN mO mQ mX : Nat) (np nr ac ke se tl at_ rp rr : Nat) (dp : Int) (pg : Nat → Int) (k u q : Int) (hn : rp < 7) : SP E mX7_tellsPeg (d + 0) 0 0 [.ref m, .int (zz k), .int (zz u), .int (zz q)] [(m, ob 7 [.int (zz ↑np), .ref mP, .ref mW, .int (zz ↑nr), .ref mR, .ref mB, .ref mS, .int (zz ↑ac), .ref mA, .int (zz ↑ke), .ref mK, .int (zz ↑se), .ref mE, .ref mT, .int (zz ↑tl), .int (zz ↑at_), .ref mD, .int (zz ↑rp), .ref nP, .ref nW, .int (zz ↑rr), .ref nR, .ref nB, .ref mN, .ref mO, .ref mQ, .int (zz dp), .ref mX]), (nP, aI E 21 pg)] (FP none [(m, ob 7 [.int (zz ↑np), .ref mP, .ref mW, .int (zz ↑nr), .ref mR, .ref mB, .ref mS, .int (zz ↑ac), .ref mA, .int (zz ↑ke), .ref mK, .int (zz ↑se), .ref mE, .ref mT, .int (zz ↑tl), .int (zz ↑at_), .ref mD, .int (zz (↑(rp + 1))), .ref nP, .ref nW, .int (zz ↑rr), .ref nR, .ref nB, .ref mN, .ref mO, .ref mQ, .int (zz dp), .ref mX]), (nP, aI E 21 (updI (updI (updI pg (3 * rp) k) (3 * rp + 1) u) (3 * rp + 2) q))]) := by
  show RR E mX7_tellsPeg (d + 0) 0 0 0 [(0, .ref m), (1, .int (zz k)), (2, .int (zz u)), (3, .int (zz q))] [] [(m, ob 7 [.int (zz ↑np), .ref mP, .ref mW, .int (zz ↑nr), .ref mR, .ref mB, .ref mS, .int (zz ↑ac), .ref mA, .int (zz ↑ke), .ref mK, .int (zz ↑se), .ref mE, .ref mT, .int (zz ↑tl), .int (zz ↑at_), .ref mD, .int (zz ↑rp), .ref nP, .ref nW, .int (zz ↑rr), .ref nR, .ref nB, .ref mN, .ref mO, .ref mQ, .int (zz dp), .ref mX]), (nP, aI E 21 pg)] (FP none [(m, ob 7 [.int (zz ↑np), .ref mP, .ref mW, .int (zz ↑nr), .ref mR, .ref mB, .ref mS, .int (zz ↑ac), .ref mA, .int (zz ↑ke), .ref mK, .int (zz ↑se), .ref mE, .ref mT, .int (zz ↑tl), .int (zz ↑at_), .ref mD, .int (zz (↑(rp + 1))), .ref nP, .ref nW, .int (zz ↑rr), .ref nR, .ref nB, .ref mN, .ref mO, .ref mQ, .int (zz dp), .ref mX]), (nP, aI E 21 (updI (updI (updI pg (3 * rp) k) (3 * rp + 1) u) (3 * rp + 2) q))])
  refine rr_aload_n 0 dX7_tellsPeg_0 rfl ?_
  refine rr_get fX7_40 0 rfl rfl dX7_tellsPeg_1 ?_
  refine rr_iconst dX7_tellsPeg_4 ?_
  refine rr_aload_n 0 dX7_tellsPeg_5 rfl ?_
  refine rr_get fX7_78 0 rfl rfl dX7_tellsPeg_6 ?_
  refine rr_imul dX7_tellsPeg_9 ?_
  refine rr_iload_n 1 dX7_tellsPeg_10 rfl ?_
  refine rr_iast (ws2 := [(m, ob 7 [.int (zz ↑np), .ref mP, .ref mW, .int (zz ↑nr), .ref mR, .ref mB, .ref mS, .int (zz ↑ac), .ref mA, .int (zz ↑ke), .ref mK, .int (zz ↑se), .ref mE, .ref mT, .int (zz ↑tl), .int (zz ↑at_), .ref mD, .int (zz ↑rp), .ref nP, .ref nW, .int (zz ↑rr), .ref nR, .ref nB, .ref mN, .ref mO, .ref mQ, .int (zz dp), .ref mX]), (nP, aI E 21 (updI pg (3 * rp) k))]) 1 (3 * rp) rfl (by omega) (by omega) (by omega) rfl dX7_tellsPeg_11 ?_
  refine rr_aload_n 0 dX7_tellsPeg_12 rfl ?_
  refine rr_get fX7_40 0 rfl rfl dX7_tellsPeg_13 ?_
  refine rr_iconst dX7_tellsPeg_16 ?_
  refine rr_aload_n 0 dX7_tellsPeg_17 rfl ?_
  refine rr_get fX7_78 0 rfl rfl dX7_tellsPeg_18 ?_
  refine rr_imul dX7_tellsPeg_21 ?_
  refine rr_iconst dX7_tellsPeg_22 ?_
  refine rr_iadd dX7_tellsPeg_23 ?_
  refine rr_iload_n 2 dX7_tellsPeg_24 rfl ?_
  refine rr_iast (ws2 := [(m, ob 7 [.int (zz ↑np), .ref mP, .ref mW, .int (zz ↑nr), .ref mR, .ref mB, .ref mS, .int (zz ↑ac), .ref mA, .int (zz ↑ke), .ref mK, .int (zz ↑se), .ref mE, .ref mT, .int (zz ↑tl), .int (zz ↑at_), .ref mD, .int (zz ↑rp), .ref nP, .ref nW, .int (zz ↑rr), .ref nR, .ref nB, .ref mN, .ref mO, .ref mQ, .int (zz dp), .ref mX]), (nP, aI E 21 (updI (updI pg (3 * rp) k) (3 * rp + 1) u))]) 1 (3 * rp + 1) rfl (by omega) (by omega) (by omega) rfl dX7_tellsPeg_25 ?_
  refine rr_aload_n 0 dX7_tellsPeg_26 rfl ?_
  refine rr_get fX7_40 0 rfl rfl dX7_tellsPeg_27 ?_
  refine rr_iconst dX7_tellsPeg_30 ?_
  refine rr_aload_n 0 dX7_tellsPeg_31 rfl ?_
  refine rr_get fX7_78 0 rfl rfl dX7_tellsPeg_32 ?_
  refine rr_imul dX7_tellsPeg_35 ?_
  refine rr_iconst dX7_tellsPeg_36 ?_
  refine rr_iadd dX7_tellsPeg_37 ?_
  refine rr_iload_n 3 dX7_tellsPeg_38 rfl ?_
  refine rr_iast (ws2 := [(m, ob 7 [.int (zz ↑np), .ref mP, .ref mW, .int (zz ↑nr), .ref mR, .ref mB, .ref mS, .int (zz ↑ac), .ref mA, .int (zz ↑ke), .ref mK, .int (zz ↑se), .ref mE, .ref mT, .int (zz ↑tl), .int (zz ↑at_), .ref mD, .int (zz ↑rp), .ref nP, .ref nW, .int (zz ↑rr), .ref nR, .ref nB, .ref mN, .ref mO, .ref mQ, .int (zz dp), .ref mX]), (nP, aI E 21 (updI (updI (updI pg (3 * rp) k) (3 * rp + 1) u) (3 * rp + 2) q))]) 1 (3 * rp + 2) rfl (by omega) (by omega) (by omega) rfl dX7_tellsPeg_39 ?_
  refine rr_aload_n 0 dX7_tellsPeg_40 rfl ?_
  refine rr_dup dX7_tellsPeg_41 rfl ?_
  refine rr_get fX7_78 0 rfl rfl dX7_tellsPeg_42 ?_
  refine rr_iconst dX7_tellsPeg_45 ?_
  refine rr_iadd dX7_tellsPeg_46 ?_
  refine rr_put (ws2 := [(m, ob 7 [.int (zz ↑np), .ref mP, .ref mW, .int (zz ↑nr), .ref mR, .ref mB, .ref mS, .int (zz ↑ac), .ref mA, .int (zz ↑ke), .ref mK, .int (zz ↑se), .ref mE, .ref mT, .int (zz ↑tl), .int (zz ↑at_), .ref mD, .int (zz (↑(rp + 1))), .ref nP, .ref nW, .int (zz ↑rr), .ref nR, .ref nB, .ref mN, .ref mO, .ref mQ, .int (zz dp), .ref mX]), (nP, aI E 21 (updI (updI (updI pg (3 * rp) k) (3 * rp + 1) u) (3 * rp + 2) q))]) fX7_78 0 rfl rfl rfl (Nat.le_of_ble_eq_true rfl) rfl dX7_tellsPeg_47 ?_
  exact rr_ret dX7_tellsPeg_50 rfl ⟨rfl, rfl⟩
set_option maxRecDepth 100000 in
set_option maxHeartbeats 400000 in
theorem c_tellsRoof (E : Ev) (d : Nat) (m mP mW mR mB mS mA mK mE mT mD nP nW nR nB mN mO mQ mX : Nat) (np nr ac ke se tl at_ rp rr : Nat) (dp : Int) (ro : Nat → Int) (k u : Int) (hn : rr < 6) : SP E mX7_tellsRoof (d + 0) 0 0 [.ref m, .int (zz k), .int (zz u)] [(m, ob 7 [.int (zz ↑np), .ref mP, .ref mW, .int (zz ↑nr), .ref mR, .ref mB, .ref mS, .int (zz ↑ac), .ref mA, .int (zz ↑ke), .ref mK, .int (zz ↑se), .ref mE, .ref mT, .int (zz ↑tl), .int (zz ↑at_), .ref mD, .int (zz ↑rp), .ref nP, .ref nW, .int (zz ↑rr), .ref nR, .ref nB, .ref mN, .ref mO, .ref mQ, .int (zz dp), .ref mX]), (nR, aI E 12 ro)] (FP none [(m, ob 7 [.int (zz ↑np), .ref mP, .ref mW, .int (zz ↑nr), .ref mR, .ref mB, .ref mS, .int (zz ↑ac), .ref mA, .int (zz ↑ke), .ref mK, .int (zz ↑se), .ref mE, .ref mT, .int (zz ↑tl), .int (zz ↑at_), .ref mD, .int (zz ↑rp), .ref nP, .ref nW, .int (zz (↑(rr + 1))), .ref nR, .ref nB, .ref mN, .ref mO, .ref mQ, .int (zz dp), .ref mX]), (nR, aI E 12 (updI (updI ro (2 * rr) k) (2 * rr + 1) u))]) := by
  show RR E mX7_tellsRoof (d + 0) 0 0 0 [(0, .ref m), (1, .int (zz k)), (2, .int (zz u))] [] [(m, ob 7 [.int (zz ↑np), .ref mP, .ref mW, .int (zz ↑nr), .ref mR, .ref mB, .ref mS, .int (zz ↑ac), .ref mA, .int (zz ↑ke), .ref mK, .int (zz ↑se), .ref mE, .ref mT, .int (zz ↑tl), .int (zz ↑at_), .ref mD, .int (zz ↑rp), .ref nP, .ref nW, .int (zz ↑rr), .ref nR, .ref nB, .ref mN, .ref mO, .ref mQ, .int (zz dp), .ref mX]), (nR, aI E 12 ro)] (FP none [(m, ob 7 [.int (zz ↑np), .ref mP, .ref mW, .int (zz ↑nr), .ref mR, .ref mB, .ref mS, .int (zz ↑ac), .ref mA, .int (zz ↑ke), .ref mK, .int (zz ↑se), .ref mE, .ref mT, .int (zz ↑tl), .int (zz ↑at_), .ref mD, .int (zz ↑rp), .ref nP, .ref nW, .int (zz (↑(rr + 1))), .ref nR, .ref nB, .ref mN, .ref mO, .ref mQ, .int (zz dp), .ref mX]), (nR, aI E 12 (updI (updI ro (2 * rr) k) (2 * rr + 1) u))])
  refine rr_aload_n 0 dX7_tellsRoof_0 rfl ?_
  refine rr_get fX7_46 0 rfl rfl dX7_tellsRoof_1 ?_
  refine rr_iconst dX7_tellsRoof_4 ?_
  refine rr_aload_n 0 dX7_tellsRoof_5 rfl ?_
  refine rr_get fX7_82 0 rfl rfl dX7_tellsRoof_6 ?_
  refine rr_imul dX7_tellsRoof_9 ?_
  refine rr_iload_n 1 dX7_tellsRoof_10 rfl ?_
  refine rr_iast (ws2 := [(m, ob 7 [.int (zz ↑np), .ref mP, .ref mW, .int (zz ↑nr), .ref mR, .ref mB, .ref mS, .int (zz ↑ac), .ref mA, .int (zz ↑ke), .ref mK, .int (zz ↑se), .ref mE, .ref mT, .int (zz ↑tl), .int (zz ↑at_), .ref mD, .int (zz ↑rp), .ref nP, .ref nW, .int (zz ↑rr), .ref nR, .ref nB, .ref mN, .ref mO, .ref mQ, .int (zz dp), .ref mX]), (nR, aI E 12 (updI ro (2 * rr) k))]) 1 (2 * rr) rfl (by omega) (by omega) (by omega) rfl dX7_tellsRoof_11 ?_
  refine rr_aload_n 0 dX7_tellsRoof_12 rfl ?_
  refine rr_get fX7_46 0 rfl rfl dX7_tellsRoof_13 ?_
  refine rr_iconst dX7_tellsRoof_16 ?_
  refine rr_aload_n 0 dX7_tellsRoof_17 rfl ?_
  refine rr_get fX7_82 0 rfl rfl dX7_tellsRoof_18 ?_
  refine rr_imul dX7_tellsRoof_21 ?_
  refine rr_iconst dX7_tellsRoof_22 ?_
  refine rr_iadd dX7_tellsRoof_23 ?_
  refine rr_iload_n 2 dX7_tellsRoof_24 rfl ?_
  refine rr_iast (ws2 := [(m, ob 7 [.int (zz ↑np), .ref mP, .ref mW, .int (zz ↑nr), .ref mR, .ref mB, .ref mS, .int (zz ↑ac), .ref mA, .int (zz ↑ke), .ref mK, .int (zz ↑se), .ref mE, .ref mT, .int (zz ↑tl), .int (zz ↑at_), .ref mD, .int (zz ↑rp), .ref nP, .ref nW, .int (zz ↑rr), .ref nR, .ref nB, .ref mN, .ref mO, .ref mQ, .int (zz dp), .ref mX]), (nR, aI E 12 (updI (updI ro (2 * rr) k) (2 * rr + 1) u))]) 1 (2 * rr + 1) rfl (by omega) (by omega) (by omega) rfl dX7_tellsRoof_25 ?_
  refine rr_aload_n 0 dX7_tellsRoof_26 rfl ?_
  refine rr_dup dX7_tellsRoof_27 rfl ?_
  refine rr_get fX7_82 0 rfl rfl dX7_tellsRoof_28 ?_
  refine rr_iconst dX7_tellsRoof_31 ?_
  refine rr_iadd dX7_tellsRoof_32 ?_
  refine rr_put (ws2 := [(m, ob 7 [.int (zz ↑np), .ref mP, .ref mW, .int (zz ↑nr), .ref mR, .ref mB, .ref mS, .int (zz ↑ac), .ref mA, .int (zz ↑ke), .ref mK, .int (zz ↑se), .ref mE, .ref mT, .int (zz ↑tl), .int (zz ↑at_), .ref mD, .int (zz ↑rp), .ref nP, .ref nW, .int (zz (↑(rr + 1))), .ref nR, .ref nB, .ref mN, .ref mO, .ref mQ, .int (zz dp), .ref mX]), (nR, aI E 12 (updI (updI ro (2 * rr) k) (2 * rr + 1) u))]) fX7_82 0 rfl rfl rfl (Nat.le_of_ble_eq_true rfl) rfl dX7_tellsRoof_33 ?_
  exact rr_ret dX7_tellsRoof_36 rfl ⟨rfl, rfl⟩
set_option maxRecDepth 100000 in
set_option maxHeartbeats 400000 in
theorem c_readPegOf (E : Ev) (d : Nat) (m mP mW mR mB mS mA mK mE mT mD nP nW nR nB mN mO mQ mX : Nat) (np nr ac ke se tl at_ rp rr : Nat) (dp : Int) (tx t pg wn ro bg : Nat → Int) (htx : txOK tx tl) (hat : at_ ≤ 201) (hnm : nmM t) (hrp : rp ≤ 7) (hrr : rr ≤ 6) : SP E mX7_readPegOf (d + 3) 0 0 [.ref m] [(m, ob 7 [.int (zz ↑np), .ref mP, .ref mW, .int (zz ↑nr), .ref mR, .ref mB, .ref mS, .int (zz ↑ac), .ref mA, .int (zz ↑ke), .ref mK, .int (zz ↑se), .ref mE, .ref mT, .int (zz ↑tl), .int (zz ↑at_), .ref mD, .int (zz ↑rp), .ref nP, .ref nW, .int (zz ↑rr), .ref nR, .ref nB, .ref mN, .ref mO, .ref mQ, .int (zz dp), .ref mX]), (mT, aI E 200 tx), (mD, aI E 4 t), (nP, aI E 21 pg), (nW, aI E 10 wn), (nR, aI E 12 ro), (nB, aI E 7 bg)] (oPost (itK tx tl 112 3 at_ t (rp, pg, wn, rr, ro, bg)) (fun x w => nmM x.2.2 ∧ w = [(m, ob 7 [.int (zz ↑np), .ref mP, .ref mW, .int (zz ↑nr), .ref mR, .ref mB, .ref mS, .int (zz ↑ac), .ref mA, .int (zz ↑ke), .ref mK, .int (zz ↑se), .ref mE, .ref mT, .int (zz ↑tl), .int (zz (↑(x.2.1))), .ref mD, .int (zz (↑(x.1.1))), .ref nP, .ref nW, .int (zz (↑(x.1.2.2.2.1))), .ref nR, .ref nB, .ref mN, .ref mO, .ref mQ, .int (zz dp), .ref mX]), (mT, aI E 200 tx), (mD, aI E 4 x.2.2), (nP, aI E 21 x.1.2.1), (nW, aI E 10 x.1.2.2.1), (nR, aI E 12 x.1.2.2.2.2.1), (nB, aI E 7 x.1.2.2.2.2.2)]) (fun w => ∃ (a2 : Nat) (t2 : Nat → Int), nmM t2 ∧ w = [(m, ob 7 [.int (zz ↑np), .ref mP, .ref mW, .int (zz ↑nr), .ref mR, .ref mB, .ref mS, .int (zz ↑ac), .ref mA, .int (zz ↑ke), .ref mK, .int (zz ↑se), .ref mE, .ref mT, .int (zz ↑tl), .int (zz ↑a2), .ref mD, .int (zz ↑rp), .ref nP, .ref nW, .int (zz ↑rr), .ref nR, .ref nB, .ref mN, .ref mO, .ref mQ, .int (zz dp), .ref mX]), (mT, aI E 200 tx), (mD, aI E 4 t2), (nP, aI E 21 pg), (nW, aI E 10 wn), (nR, aI E 12 ro), (nB, aI E 7 bg)])) := by
  show RR E mX7_readPegOf (d + 3) 0 0 0 [(0, .ref m)] [] [(m, ob 7 [.int (zz ↑np), .ref mP, .ref mW, .int (zz ↑nr), .ref mR, .ref mB, .ref mS, .int (zz ↑ac), .ref mA, .int (zz ↑ke), .ref mK, .int (zz ↑se), .ref mE, .ref mT, .int (zz ↑tl), .int (zz ↑at_), .ref mD, .int (zz ↑rp), .ref nP, .ref nW, .int (zz ↑rr), .ref nR, .ref nB, .ref mN, .ref mO, .ref mQ, .int (zz dp), .ref mX]), (mT, aI E 200 tx), (mD, aI E 4 t), (nP, aI E 21 pg), (nW, aI E 10 wn), (nR, aI E 12 ro), (nB, aI E 7 bg)] (oPost (itK tx tl 112 3 at_ t (rp, pg, wn, rr, ro, bg)) (fun x w => nmM x.2.2 ∧ w = [(m, ob 7 [.int (zz ↑np), .ref mP, .ref mW, .int (zz ↑nr), .ref mR, .ref mB, .ref mS, .int (zz ↑ac), .ref mA, .int (zz ↑ke), .ref mK, .int (zz ↑se), .ref mE, .ref mT, .int (zz ↑tl), .int (zz (↑(x.2.1))), .ref mD, .int (zz (↑(x.1.1))), .ref nP, .ref nW, .int (zz (↑(x.1.2.2.2.1))), .ref nR, .ref nB, .ref mN, .ref mO, .ref mQ, .int (zz dp), .ref mX]), (mT, aI E 200 tx), (mD, aI E 4 x.2.2), (nP, aI E 21 x.1.2.1), (nW, aI E 10 x.1.2.2.1), (nR, aI E 12 x.1.2.2.2.2.1), (nB, aI E 7 x.1.2.2.2.2.2)]) (fun w => ∃ (a2 : Nat) (t2 : Nat → Int), nmM t2 ∧ w = [(m, ob 7 [.int (zz ↑np), .ref mP, .ref mW, .int (zz ↑nr), .ref mR, .ref mB, .ref mS, .int (zz ↑ac), .ref mA, .int (zz ↑ke), .ref mK, .int (zz ↑se), .ref mE, .ref mT, .int (zz ↑tl), .int (zz ↑a2), .ref mD, .int (zz ↑rp), .ref nP, .ref nW, .int (zz ↑rr), .ref nR, .ref nB, .ref mN, .ref mO, .ref mQ, .int (zz dp), .ref mX]), (mT, aI E 200 tx), (mD, aI E 4 t2), (nP, aI E 21 pg), (nW, aI E 10 wn), (nR, aI E 12 ro), (nB, aI E 7 bg)]))
  have hlen := htx.1
  have hsg := fun a => sgF_rg (at_ := a) htx
  refine rr_aload_n 0 dX7_readPegOf_0 rfl ?_
  refine rr_get fX7_78 0 rfl rfl dX7_readPegOf_1 ?_
  refine rr_bipush dX7_readPegOf_4 (by decide) ?_
  refine rr_icmp_eq 48 dX7_readPegOf_6 (by decide) (by omega) (by omega) (fun c_1 => ?_) (fun c_1 => ?_)
  · skip
    refine rr_iconst dX7_readPegOf_48 ?_
    exact rr_iret dX7_readPegOf_49 rfl rfl (oPost_none (itK_a (fun t2 => tellM_pn rfl (by omega))) ⟨at_, t, hnm, rfl⟩)
  · skip
    refine rr_aload_n 0 dX7_readPegOf_9 rfl ?_
    refine rr_iconst dX7_readPegOf_10 ?_
    refine rr_call (wr := [(nP, aI E 21 pg), (nW, aI E 10 wn), (nR, aI E 12 ro), (nB, aI E 7 bg)]) (call_V (q0 := 0) kX7_109 (c_readNumbers E (d + 0) m mP mW mR mB mS mA mK mE mT mD nP nW nR nB mN mO mQ mX np nr ac ke se tl at_ rp rr dp 3 tx t (by omega) htx (by omega) hnm) rfl rfl rfl rfl (by omega) (by decide) (Nat.le_of_ble_eq_true rfl) (Nat.le_of_ble_eq_true rfl) dX7_readPegOf_11) [0, 1, 2] [3, 4, 5, 6] rfl rfl rfl rfl rfl (Nat.zero_le _) (Nat.zero_le _) (fun v w1 hp1 => ?_)
    cases hrd : rds tx tl 3 0 at_ t with
    | none =>
      rw [hrd] at hp1
      obtain ⟨rfl, a2, t2, hn2, rfl⟩ := hp1
      refine RR.eq (st2 := [.int (zz 0)]) (ws2 := [(nP, aI E 21 pg), (nW, aI E 10 wn), (nR, aI E 12 ro), (nB, aI E 7 bg), (m, ob 7 [.int (zz ↑np), .ref mP, .ref mW, .int (zz ↑nr), .ref mR, .ref mB, .ref mS, .int (zz ↑ac), .ref mA, .int (zz ↑ke), .ref mK, .int (zz ↑se), .ref mE, .ref mT, .int (zz ↑tl), .int (zz ↑a2), .ref mD, .int (zz ↑rp), .ref nP, .ref nW, .int (zz ↑rr), .ref nR, .ref nB, .ref mN, .ref mO, .ref mQ, .int (zz dp), .ref mX]), (mT, aI E 200 tx), (mD, aI E 4 t2)]) rfl rfl rfl rfl ?_
      refine RR.ws (ws2 := [(m, ob 7 [.int (zz ↑np), .ref mP, .ref mW, .int (zz ↑nr), .ref mR, .ref mB, .ref mS, .int (zz ↑ac), .ref mA, .int (zz ↑ke), .ref mK, .int (zz ↑se), .ref mE, .ref mT, .int (zz ↑tl), .int (zz ↑a2), .ref mD, .int (zz ↑rp), .ref nP, .ref nW, .int (zz ↑rr), .ref nR, .ref nB, .ref mN, .ref mO, .ref mQ, .int (zz dp), .ref mX]), (mT, aI E 200 tx), (mD, aI E 4 t2), (nP, aI E 21 pg), (nW, aI E 10 wn), (nR, aI E 12 ro), (nB, aI E 7 bg)]) [4, 5, 6, 0, 1, 2, 3] rfl rfl ?_
      refine rr_if_eq 48 dX7_readPegOf_14 (by decide) (by omega) (fun c_2 => ?_) (fun c_2 => ?_)
      · skip
        refine rr_iconst dX7_readPegOf_48 ?_
        exact rr_iret dX7_readPegOf_49 rfl rfl (oPost_none (itK_r hrd) ⟨a2, t2, hn2, rfl⟩)
      · skip
        exfalso; omega
    | some x =>
      rw [hrd] at hp1
      obtain ⟨t3, a3⟩ := x
      obtain ⟨rfl, hn2, rfl⟩ := hp1
      dsimp only at hn2
      have z0 := hn2 0 (by omega)
      have z1 := hn2 1 (by omega)
      have z2 := hn2 2 (by omega)
      have z3 := hn2 3 (by omega)
      refine RR.eq (st2 := [.int (zz 1)]) (ws2 := [(nP, aI E 21 pg), (nW, aI E 10 wn), (nR, aI E 12 ro), (nB, aI E 7 bg), (m, ob 7 [.int (zz ↑np), .ref mP, .ref mW, .int (zz ↑nr), .ref mR, .ref mB, .ref mS, .int (zz ↑ac), .ref mA, .int (zz ↑ke), .ref mK, .int (zz ↑se), .ref mE, .ref mT, .int (zz ↑tl), .int (zz ↑a3), .ref mD, .int (zz ↑rp), .ref nP, .ref nW, .int (zz ↑rr), .ref nR, .ref nB, .ref mN, .ref mO, .ref mQ, .int (zz dp), .ref mX]), (mT, aI E 200 tx), (mD, aI E 4 t3)]) rfl rfl rfl rfl ?_
      refine RR.ws (ws2 := [(m, ob 7 [.int (zz ↑np), .ref mP, .ref mW, .int (zz ↑nr), .ref mR, .ref mB, .ref mS, .int (zz ↑ac), .ref mA, .int (zz ↑ke), .ref mK, .int (zz ↑se), .ref mE, .ref mT, .int (zz ↑tl), .int (zz ↑a3), .ref mD, .int (zz ↑rp), .ref nP, .ref nW, .int (zz ↑rr), .ref nR, .ref nB, .ref mN, .ref mO, .ref mQ, .int (zz dp), .ref mX]), (mT, aI E 200 tx), (mD, aI E 4 t3), (nP, aI E 21 pg), (nW, aI E 10 wn), (nR, aI E 12 ro), (nB, aI E 7 bg)]) [4, 5, 6, 0, 1, 2, 3] rfl rfl ?_
      refine rr_if_eq 48 dX7_readPegOf_14 (by decide) (by omega) (fun c_3 => ?_) (fun c_3 => ?_)
      · skip
        exfalso; omega
      · skip
        refine rr_aload_n 0 dX7_readPegOf_17 rfl ?_
        refine rr_iconst dX7_readPegOf_18 ?_
        refine rr_iconst dX7_readPegOf_19 ?_
        refine rr_iconst dX7_readPegOf_20 ?_
        refine rr_callFi (ws2 := [(m, ob 7 [.int (zz ↑np), .ref mP, .ref mW, .int (zz ↑nr), .ref mR, .ref mB, .ref mS, .int (zz ↑ac), .ref mA, .int (zz ↑ke), .ref mK, .int (zz ↑se), .ref mE, .ref mT, .int (zz ↑tl), .int (zz ↑a3), .ref mD, .int (zz ↑rp), .ref nP, .ref nW, .int (zz ↑rr), .ref nR, .ref nB, .ref mN, .ref mO, .ref mQ, .int (zz dp), .ref mX]), (mT, aI E 200 tx), (mD, aI E 4 t3), (nP, aI E 21 pg), (nW, aI E 10 wn), (nR, aI E 12 ro), (nB, aI E 7 bg)]) (wr := [(mT, aI E 200 tx), (nP, aI E 21 pg), (nW, aI E 10 wn), (nR, aI E 12 ro), (nB, aI E 7 bg)]) (call_V (q0 := 0) kX7_112 (c_isTold E (d + 1) m mP mW mR mB mS mA mK mE mT mD nP nW nR nB mN mO mQ mX np nr ac ke se tl a3 rp rr dp t3 0 0 3 (by omega) hn2 (by omega) (by omega)) rfl rfl rfl rfl (by omega) (by decide) (Nat.le_of_ble_eq_true rfl) (Nat.le_of_ble_eq_true rfl) dX7_readPegOf_21) [0, 2] [1, 3, 4, 5, 6] [5, 0, 6, 1, 2, 3, 4] rfl rfl rfl rfl rfl rfl rfl ?_
        refine rr_if_eqD 48 dX7_readPegOf_24 (by decide) (fun c_4 => ?_) (fun c_4 => ?_)
        · skip
          refine rr_iconst dX7_readPegOf_48 ?_
          exact rr_iret dX7_readPegOf_49 rfl rfl (oPost_none (itK_n (x := (t3, a3)) hrd (tellM_pn (t := t3) rfl (by omega))) ⟨a3, t3, hn2, rfl⟩)
        · skip
          refine rr_aload_n 0 dX7_readPegOf_27 rfl ?_
          refine rr_iconst dX7_readPegOf_28 ?_
          refine rr_iconst dX7_readPegOf_29 ?_
          refine rr_bipush dX7_readPegOf_30 (by decide) ?_
          refine rr_callFi (ws2 := [(m, ob 7 [.int (zz ↑np), .ref mP, .ref mW, .int (zz ↑nr), .ref mR, .ref mB, .ref mS, .int (zz ↑ac), .ref mA, .int (zz ↑ke), .ref mK, .int (zz ↑se), .ref mE, .ref mT, .int (zz ↑tl), .int (zz ↑a3), .ref mD, .int (zz ↑rp), .ref nP, .ref nW, .int (zz ↑rr), .ref nR, .ref nB, .ref mN, .ref mO, .ref mQ, .int (zz dp), .ref mX]), (mT, aI E 200 tx), (mD, aI E 4 t3), (nP, aI E 21 pg), (nW, aI E 10 wn), (nR, aI E 12 ro), (nB, aI E 7 bg)]) (wr := [(mT, aI E 200 tx), (nP, aI E 21 pg), (nW, aI E 10 wn), (nR, aI E 12 ro), (nB, aI E 7 bg)]) (call_V (q0 := 0) kX7_112 (c_isTold E (d + 1) m mP mW mR mB mS mA mK mE mT mD nP nW nR nB mN mO mQ mX np nr ac ke se tl a3 rp rr dp t3 1 0 9 (by omega) hn2 (by omega) (by omega)) rfl rfl rfl rfl (by omega) (by decide) (Nat.le_of_ble_eq_true rfl) (Nat.le_of_ble_eq_true rfl) dX7_readPegOf_32) [0, 2] [1, 3, 4, 5, 6] [5, 0, 6, 1, 2, 3, 4] rfl rfl rfl rfl rfl rfl rfl ?_
          refine rr_if_eqD 48 dX7_readPegOf_35 (by decide) (fun c_5 => ?_) (fun c_5 => ?_)
          · skip
            refine rr_iconst dX7_readPegOf_48 ?_
            exact rr_iret dX7_readPegOf_49 rfl rfl (oPost_none (itK_n (x := (t3, a3)) hrd (tellM_pn (t := t3) rfl (by omega))) ⟨a3, t3, hn2, rfl⟩)
          · skip
            refine rr_aload_n 0 dX7_readPegOf_38 rfl ?_
            refine rr_iconst dX7_readPegOf_39 ?_
            refine rr_iconst dX7_readPegOf_40 ?_
            refine rr_iconst dX7_readPegOf_41 ?_
            refine rr_callFi (ws2 := [(m, ob 7 [.int (zz ↑np), .ref mP, .ref mW, .int (zz ↑nr), .ref mR, .ref mB, .ref mS, .int (zz ↑ac), .ref mA, .int (zz ↑ke), .ref mK, .int (zz ↑se), .ref mE, .ref mT, .int (zz ↑tl), .int (zz ↑a3), .ref mD, .int (zz ↑rp), .ref nP, .ref nW, .int (zz ↑rr), .ref nR, .ref nB, .ref mN, .ref mO, .ref mQ, .int (zz dp), .ref mX]), (mT, aI E 200 tx), (mD, aI E 4 t3), (nP, aI E 21 pg), (nW, aI E 10 wn), (nR, aI E 12 ro), (nB, aI E 7 bg)]) (wr := [(mT, aI E 200 tx), (nP, aI E 21 pg), (nW, aI E 10 wn), (nR, aI E 12 ro), (nB, aI E 7 bg)]) (call_V (q0 := 0) kX7_112 (c_isTold E (d + 1) m mP mW mR mB mS mA mK mE mT mD nP nW nR nB mN mO mQ mX np nr ac ke se tl a3 rp rr dp t3 2 0 3 (by omega) hn2 (by omega) (by omega)) rfl rfl rfl rfl (by omega) (by decide) (Nat.le_of_ble_eq_true rfl) (Nat.le_of_ble_eq_true rfl) dX7_readPegOf_42) [0, 2] [1, 3, 4, 5, 6] [5, 0, 6, 1, 2, 3, 4] rfl rfl rfl rfl rfl rfl rfl ?_
            refine rr_if_neD 50 dX7_readPegOf_45 (by decide) (fun c_6 => ?_) (fun c_6 => ?_)
            · skip
              refine rr_aload_n 0 dX7_readPegOf_50 rfl ?_
              refine rr_aload_n 0 dX7_readPegOf_51 rfl ?_
              refine rr_get fX7_37 0 rfl rfl dX7_readPegOf_52 ?_
              refine rr_iconst dX7_readPegOf_55 ?_
              refine rr_iald 2 0 rfl rfl (by omega) (by omega) dX7_readPegOf_56 ?_
              refine rr_aload_n 0 dX7_readPegOf_57 rfl ?_
              refine rr_get fX7_37 0 rfl rfl dX7_readPegOf_58 ?_
              refine rr_iconst dX7_readPegOf_61 ?_
              refine rr_iald 2 1 rfl rfl (by omega) (by omega) dX7_readPegOf_62 ?_
              refine rr_aload_n 0 dX7_readPegOf_63 rfl ?_
              refine rr_get fX7_37 0 rfl rfl dX7_readPegOf_64 ?_
              refine rr_iconst dX7_readPegOf_67 ?_
              refine rr_iald 2 2 rfl rfl (by omega) (by omega) dX7_readPegOf_68 ?_
              refine rr_callFv (ws2 := [(m, ob 7 [.int (zz ↑np), .ref mP, .ref mW, .int (zz ↑nr), .ref mR, .ref mB, .ref mS, .int (zz ↑ac), .ref mA, .int (zz ↑ke), .ref mK, .int (zz ↑se), .ref mE, .ref mT, .int (zz ↑tl), .int (zz ↑a3), .ref mD, .int (zz (↑(rp + 1))), .ref nP, .ref nW, .int (zz ↑rr), .ref nR, .ref nB, .ref mN, .ref mO, .ref mQ, .int (zz dp), .ref mX]), (mT, aI E 200 tx), (mD, aI E 4 t3), (nP, aI E 21 (updI (updI (updI pg (3 * rp) (t3 0)) (3 * rp + 1) (t3 1)) (3 * rp + 2) (t3 2))), (nW, aI E 10 wn), (nR, aI E 12 ro), (nB, aI E 7 bg)]) (wr := [(mT, aI E 200 tx), (mD, aI E 4 t3), (nW, aI E 10 wn), (nR, aI E 12 ro), (nB, aI E 7 bg)]) (call_V (q0 := 0) kX7_67 (c_tellsPeg E (d + 2) m mP mW mR mB mS mA mK mE mT mD nP nW nR nB mN mO mQ mX np nr ac ke se tl a3 rp rr dp pg (t3 0) (t3 1) (t3 2) (by omega)) rfl rfl rfl rfl (by omega) (by decide) (Nat.le_of_ble_eq_true rfl) (Nat.le_of_ble_eq_true rfl) dX7_readPegOf_69) [0, 3] [1, 2, 4, 5, 6] [5, 0, 1, 6, 2, 3, 4] rfl rfl rfl rfl rfl rfl rfl ?_
              refine rr_iconst dX7_readPegOf_72 ?_
              exact rr_iret dX7_readPegOf_73 rfl rfl (oPost_some (itK_s (x := (t3, a3)) hrd (tellM_p (t := t3) rfl (by omega))) ⟨hn2, rfl⟩)
            · skip
              refine rr_iconst dX7_readPegOf_48 ?_
              exact rr_iret dX7_readPegOf_49 rfl rfl (oPost_none (itK_n (x := (t3, a3)) hrd (tellM_pn (t := t3) rfl (by omega))) ⟨a3, t3, hn2, rfl⟩)
set_option maxRecDepth 100000 in
set_option maxHeartbeats 400000 in
theorem c_readWindOf (E : Ev) (d : Nat) (m mP mW mR mB mS mA mK mE mT mD nP nW nR nB mN mO mQ mX : Nat) (np nr ac ke se tl at_ rp rr : Nat) (dp : Int) (tx t pg wn ro bg : Nat → Int) (htx : txOK tx tl) (hat : at_ ≤ 201) (hnm : nmM t) (hrp : rp ≤ 7) (hrr : rr ≤ 6) : SP E mX7_readWindOf (d + 3) 0 0 [.ref m] [(m, ob 7 [.int (zz ↑np), .ref mP, .ref mW, .int (zz ↑nr), .ref mR, .ref mB, .ref mS, .int (zz ↑ac), .ref mA, .int (zz ↑ke), .ref mK, .int (zz ↑se), .ref mE, .ref mT, .int (zz ↑tl), .int (zz ↑at_), .ref mD, .int (zz ↑rp), .ref nP, .ref nW, .int (zz ↑rr), .ref nR, .ref nB, .ref mN, .ref mO, .ref mQ, .int (zz dp), .ref mX]), (mT, aI E 200 tx), (mD, aI E 4 t), (nP, aI E 21 pg), (nW, aI E 10 wn), (nR, aI E 12 ro), (nB, aI E 7 bg)] (oPost (itK tx tl 119 2 at_ t (rp, pg, wn, rr, ro, bg)) (fun x w => nmM x.2.2 ∧ w = [(m, ob 7 [.int (zz ↑np), .ref mP, .ref mW, .int (zz ↑nr), .ref mR, .ref mB, .ref mS, .int (zz ↑ac), .ref mA, .int (zz ↑ke), .ref mK, .int (zz ↑se), .ref mE, .ref mT, .int (zz ↑tl), .int (zz (↑(x.2.1))), .ref mD, .int (zz (↑(x.1.1))), .ref nP, .ref nW, .int (zz (↑(x.1.2.2.2.1))), .ref nR, .ref nB, .ref mN, .ref mO, .ref mQ, .int (zz dp), .ref mX]), (mT, aI E 200 tx), (mD, aI E 4 x.2.2), (nP, aI E 21 x.1.2.1), (nW, aI E 10 x.1.2.2.1), (nR, aI E 12 x.1.2.2.2.2.1), (nB, aI E 7 x.1.2.2.2.2.2)]) (fun w => ∃ (a2 : Nat) (t2 : Nat → Int), nmM t2 ∧ w = [(m, ob 7 [.int (zz ↑np), .ref mP, .ref mW, .int (zz ↑nr), .ref mR, .ref mB, .ref mS, .int (zz ↑ac), .ref mA, .int (zz ↑ke), .ref mK, .int (zz ↑se), .ref mE, .ref mT, .int (zz ↑tl), .int (zz ↑a2), .ref mD, .int (zz ↑rp), .ref nP, .ref nW, .int (zz ↑rr), .ref nR, .ref nB, .ref mN, .ref mO, .ref mQ, .int (zz dp), .ref mX]), (mT, aI E 200 tx), (mD, aI E 4 t2), (nP, aI E 21 pg), (nW, aI E 10 wn), (nR, aI E 12 ro), (nB, aI E 7 bg)])) := by
  show RR E mX7_readWindOf (d + 3) 0 0 0 [(0, .ref m)] [] [(m, ob 7 [.int (zz ↑np), .ref mP, .ref mW, .int (zz ↑nr), .ref mR, .ref mB, .ref mS, .int (zz ↑ac), .ref mA, .int (zz ↑ke), .ref mK, .int (zz ↑se), .ref mE, .ref mT, .int (zz ↑tl), .int (zz ↑at_), .ref mD, .int (zz ↑rp), .ref nP, .ref nW, .int (zz ↑rr), .ref nR, .ref nB, .ref mN, .ref mO, .ref mQ, .int (zz dp), .ref mX]), (mT, aI E 200 tx), (mD, aI E 4 t), (nP, aI E 21 pg), (nW, aI E 10 wn), (nR, aI E 12 ro), (nB, aI E 7 bg)] (oPost (itK tx tl 119 2 at_ t (rp, pg, wn, rr, ro, bg)) (fun x w => nmM x.2.2 ∧ w = [(m, ob 7 [.int (zz ↑np), .ref mP, .ref mW, .int (zz ↑nr), .ref mR, .ref mB, .ref mS, .int (zz ↑ac), .ref mA, .int (zz ↑ke), .ref mK, .int (zz ↑se), .ref mE, .ref mT, .int (zz ↑tl), .int (zz (↑(x.2.1))), .ref mD, .int (zz (↑(x.1.1))), .ref nP, .ref nW, .int (zz (↑(x.1.2.2.2.1))), .ref nR, .ref nB, .ref mN, .ref mO, .ref mQ, .int (zz dp), .ref mX]), (mT, aI E 200 tx), (mD, aI E 4 x.2.2), (nP, aI E 21 x.1.2.1), (nW, aI E 10 x.1.2.2.1), (nR, aI E 12 x.1.2.2.2.2.1), (nB, aI E 7 x.1.2.2.2.2.2)]) (fun w => ∃ (a2 : Nat) (t2 : Nat → Int), nmM t2 ∧ w = [(m, ob 7 [.int (zz ↑np), .ref mP, .ref mW, .int (zz ↑nr), .ref mR, .ref mB, .ref mS, .int (zz ↑ac), .ref mA, .int (zz ↑ke), .ref mK, .int (zz ↑se), .ref mE, .ref mT, .int (zz ↑tl), .int (zz ↑a2), .ref mD, .int (zz ↑rp), .ref nP, .ref nW, .int (zz ↑rr), .ref nR, .ref nB, .ref mN, .ref mO, .ref mQ, .int (zz dp), .ref mX]), (mT, aI E 200 tx), (mD, aI E 4 t2), (nP, aI E 21 pg), (nW, aI E 10 wn), (nR, aI E 12 ro), (nB, aI E 7 bg)]))
  have hlen := htx.1
  have hsg := fun a => sgF_rg (at_ := a) htx
  refine rr_aload_n 0 dX7_readWindOf_0 rfl ?_
  refine rr_iconst dX7_readWindOf_1 ?_
  refine rr_call (wr := [(nP, aI E 21 pg), (nW, aI E 10 wn), (nR, aI E 12 ro), (nB, aI E 7 bg)]) (call_V (q0 := 0) kX7_109 (c_readNumbers E (d + 0) m mP mW mR mB mS mA mK mE mT mD nP nW nR nB mN mO mQ mX np nr ac ke se tl at_ rp rr dp 2 tx t (by omega) htx (by omega) hnm) rfl rfl rfl rfl (by omega) (by decide) (Nat.le_of_ble_eq_true rfl) (Nat.le_of_ble_eq_true rfl) dX7_readWindOf_2) [0, 1, 2] [3, 4, 5, 6] rfl rfl rfl rfl rfl (Nat.zero_le _) (Nat.zero_le _) (fun v w1 hp1 => ?_)
  cases hrd : rds tx tl 2 0 at_ t with
  | none =>
    rw [hrd] at hp1
    obtain ⟨rfl, a2, t2, hn2, rfl⟩ := hp1
    refine RR.eq (st2 := [.int (zz 0)]) (ws2 := [(nP, aI E 21 pg), (nW, aI E 10 wn), (nR, aI E 12 ro), (nB, aI E 7 bg), (m, ob 7 [.int (zz ↑np), .ref mP, .ref mW, .int (zz ↑nr), .ref mR, .ref mB, .ref mS, .int (zz ↑ac), .ref mA, .int (zz ↑ke), .ref mK, .int (zz ↑se), .ref mE, .ref mT, .int (zz ↑tl), .int (zz ↑a2), .ref mD, .int (zz ↑rp), .ref nP, .ref nW, .int (zz ↑rr), .ref nR, .ref nB, .ref mN, .ref mO, .ref mQ, .int (zz dp), .ref mX]), (mT, aI E 200 tx), (mD, aI E 4 t2)]) rfl rfl rfl rfl ?_
    refine RR.ws (ws2 := [(m, ob 7 [.int (zz ↑np), .ref mP, .ref mW, .int (zz ↑nr), .ref mR, .ref mB, .ref mS, .int (zz ↑ac), .ref mA, .int (zz ↑ke), .ref mK, .int (zz ↑se), .ref mE, .ref mT, .int (zz ↑tl), .int (zz ↑a2), .ref mD, .int (zz ↑rp), .ref nP, .ref nW, .int (zz ↑rr), .ref nR, .ref nB, .ref mN, .ref mO, .ref mQ, .int (zz dp), .ref mX]), (mT, aI E 200 tx), (mD, aI E 4 t2), (nP, aI E 21 pg), (nW, aI E 10 wn), (nR, aI E 12 ro), (nB, aI E 7 bg)]) [4, 5, 6, 0, 1, 2, 3] rfl rfl ?_
    refine rr_if_eq 29 dX7_readWindOf_5 (by decide) (by omega) (fun c_1 => ?_) (fun c_1 => ?_)
    · skip
      refine rr_iconst dX7_readWindOf_29 ?_
      exact rr_iret dX7_readWindOf_30 rfl rfl (oPost_none (itK_r hrd) ⟨a2, t2, hn2, rfl⟩)
    · skip
      exfalso; omega
  | some x =>
    rw [hrd] at hp1
    obtain ⟨t3, a3⟩ := x
    obtain ⟨rfl, hn2, rfl⟩ := hp1
    dsimp only at hn2
    have z0 := hn2 0 (by omega)
    have z1 := hn2 1 (by omega)
    have z2 := hn2 2 (by omega)
    have z3 := hn2 3 (by omega)
    refine RR.eq (st2 := [.int (zz 1)]) (ws2 := [(nP, aI E 21 pg), (nW, aI E 10 wn), (nR, aI E 12 ro), (nB, aI E 7 bg), (m, ob 7 [.int (zz ↑np), .ref mP, .ref mW, .int (zz ↑nr), .ref mR, .ref mB, .ref mS, .int (zz ↑ac), .ref mA, .int (zz ↑ke), .ref mK, .int (zz ↑se), .ref mE, .ref mT, .int (zz ↑tl), .int (zz ↑a3), .ref mD, .int (zz ↑rp), .ref nP, .ref nW, .int (zz ↑rr), .ref nR, .ref nB, .ref mN, .ref mO, .ref mQ, .int (zz dp), .ref mX]), (mT, aI E 200 tx), (mD, aI E 4 t3)]) rfl rfl rfl rfl ?_
    refine RR.ws (ws2 := [(m, ob 7 [.int (zz ↑np), .ref mP, .ref mW, .int (zz ↑nr), .ref mR, .ref mB, .ref mS, .int (zz ↑ac), .ref mA, .int (zz ↑ke), .ref mK, .int (zz ↑se), .ref mE, .ref mT, .int (zz ↑tl), .int (zz ↑a3), .ref mD, .int (zz ↑rp), .ref nP, .ref nW, .int (zz ↑rr), .ref nR, .ref nB, .ref mN, .ref mO, .ref mQ, .int (zz dp), .ref mX]), (mT, aI E 200 tx), (mD, aI E 4 t3), (nP, aI E 21 pg), (nW, aI E 10 wn), (nR, aI E 12 ro), (nB, aI E 7 bg)]) [4, 5, 6, 0, 1, 2, 3] rfl rfl ?_
    refine rr_if_eq 29 dX7_readWindOf_5 (by decide) (by omega) (fun c_2 => ?_) (fun c_2 => ?_)
    · skip
      exfalso; omega
    · skip
      refine rr_aload_n 0 dX7_readWindOf_8 rfl ?_
      refine rr_iconst dX7_readWindOf_9 ?_
      refine rr_iconst dX7_readWindOf_10 ?_
      refine rr_bipush dX7_readWindOf_11 (by decide) ?_
      refine rr_callFi (ws2 := [(m, ob 7 [.int (zz ↑np), .ref mP, .ref mW, .int (zz ↑nr), .ref mR, .ref mB, .ref mS, .int (zz ↑ac), .ref mA, .int (zz ↑ke), .ref mK, .int (zz ↑se), .ref mE, .ref mT, .int (zz ↑tl), .int (zz ↑a3), .ref mD, .int (zz ↑rp), .ref nP, .ref nW, .int (zz ↑rr), .ref nR, .ref nB, .ref mN, .ref mO, .ref mQ, .int (zz dp), .ref mX]), (mT, aI E 200 tx), (mD, aI E 4 t3), (nP, aI E 21 pg), (nW, aI E 10 wn), (nR, aI E 12 ro), (nB, aI E 7 bg)]) (wr := [(mT, aI E 200 tx), (nP, aI E 21 pg), (nW, aI E 10 wn), (nR, aI E 12 ro), (nB, aI E 7 bg)]) (call_V (q0 := 0) kX7_112 (c_isTold E (d + 1) m mP mW mR mB mS mA mK mE mT mD nP nW nR nB mN mO mQ mX np nr ac ke se tl a3 rp rr dp t3 0 1 9 (by omega) hn2 (by omega) (by omega)) rfl rfl rfl rfl (by omega) (by decide) (Nat.le_of_ble_eq_true rfl) (Nat.le_of_ble_eq_true rfl) dX7_readWindOf_13) [0, 2] [1, 3, 4, 5, 6] [5, 0, 6, 1, 2, 3, 4] rfl rfl rfl rfl rfl rfl rfl ?_
      refine rr_if_eqD 29 dX7_readWindOf_16 (by decide) (fun c_3 => ?_) (fun c_3 => ?_)
      · skip
        refine rr_iconst dX7_readWindOf_29 ?_
        exact rr_iret dX7_readWindOf_30 rfl rfl (oPost_none (itK_n (x := (t3, a3)) hrd (tellM_wn (t := t3) rfl (by omega))) ⟨a3, t3, hn2, rfl⟩)
      · skip
        refine rr_aload_n 0 dX7_readWindOf_19 rfl ?_
        refine rr_iconst dX7_readWindOf_20 ?_
        refine rr_iconst dX7_readWindOf_21 ?_
        refine rr_iconst dX7_readWindOf_22 ?_
        refine rr_callFi (ws2 := [(m, ob 7 [.int (zz ↑np), .ref mP, .ref mW, .int (zz ↑nr), .ref mR, .ref mB, .ref mS, .int (zz ↑ac), .ref mA, .int (zz ↑ke), .ref mK, .int (zz ↑se), .ref mE, .ref mT, .int (zz ↑tl), .int (zz ↑a3), .ref mD, .int (zz ↑rp), .ref nP, .ref nW, .int (zz ↑rr), .ref nR, .ref nB, .ref mN, .ref mO, .ref mQ, .int (zz dp), .ref mX]), (mT, aI E 200 tx), (mD, aI E 4 t3), (nP, aI E 21 pg), (nW, aI E 10 wn), (nR, aI E 12 ro), (nB, aI E 7 bg)]) (wr := [(mT, aI E 200 tx), (nP, aI E 21 pg), (nW, aI E 10 wn), (nR, aI E 12 ro), (nB, aI E 7 bg)]) (call_V (q0 := 0) kX7_112 (c_isTold E (d + 1) m mP mW mR mB mS mA mK mE mT mD nP nW nR nB mN mO mQ mX np nr ac ke se tl a3 rp rr dp t3 1 0 4 (by omega) hn2 (by omega) (by omega)) rfl rfl rfl rfl (by omega) (by decide) (Nat.le_of_ble_eq_true rfl) (Nat.le_of_ble_eq_true rfl) dX7_readWindOf_23) [0, 2] [1, 3, 4, 5, 6] [5, 0, 6, 1, 2, 3, 4] rfl rfl rfl rfl rfl rfl rfl ?_
        refine rr_if_neD 31 dX7_readWindOf_26 (by decide) (fun c_4 => ?_) (fun c_4 => ?_)
        · skip
          refine rr_aload_n 0 dX7_readWindOf_31 rfl ?_
          refine rr_get fX7_43 0 rfl rfl dX7_readWindOf_32 ?_
          refine rr_aload_n 0 dX7_readWindOf_35 rfl ?_
          refine rr_get fX7_37 0 rfl rfl dX7_readWindOf_36 ?_
          refine rr_iconst dX7_readWindOf_39 ?_
          refine rr_iald 2 0 rfl rfl (by omega) (by omega) dX7_readWindOf_40 ?_
          refine rr_aload_n 0 dX7_readWindOf_41 rfl ?_
          refine rr_get fX7_37 0 rfl rfl dX7_readWindOf_42 ?_
          refine rr_iconst dX7_readWindOf_45 ?_
          refine rr_iald 2 1 rfl rfl (by omega) (by omega) dX7_readWindOf_46 ?_
          refine rr_iast (ws2 := [(m, ob 7 [.int (zz ↑np), .ref mP, .ref mW, .int (zz ↑nr), .ref mR, .ref mB, .ref mS, .int (zz ↑ac), .ref mA, .int (zz ↑ke), .ref mK, .int (zz ↑se), .ref mE, .ref mT, .int (zz ↑tl), .int (zz ↑a3), .ref mD, .int (zz ↑rp), .ref nP, .ref nW, .int (zz ↑rr), .ref nR, .ref nB, .ref mN, .ref mO, .ref mQ, .int (zz dp), .ref mX]), (mT, aI E 200 tx), (mD, aI E 4 t3), (nP, aI E 21 pg), (nW, aI E 10 (updI wn ((t3 0).toNat) (t3 1))), (nR, aI E 12 ro), (nB, aI E 7 bg)]) 4 ((t3 0).toNat) rfl (by omega) (by omega) (by omega) rfl dX7_readWindOf_47 ?_
          refine rr_iconst dX7_readWindOf_48 ?_
          exact rr_iret dX7_readWindOf_49 rfl rfl (oPost_some (itK_s (x := (t3, a3)) hrd (tellM_w (t := t3) rfl (by omega))) ⟨hn2, rfl⟩)
        · skip
          refine rr_iconst dX7_readWindOf_29 ?_
          exact rr_iret dX7_readWindOf_30 rfl rfl (oPost_none (itK_n (x := (t3, a3)) hrd (tellM_wn (t := t3) rfl (by omega))) ⟨a3, t3, hn2, rfl⟩)
set_option maxRecDepth 100000 in
set_option maxHeartbeats 400000 in
theorem c_readRoofOf (E : Ev) (d : Nat) (m mP mW mR mB mS mA mK mE mT mD nP nW nR nB mN mO mQ mX : Nat) (np nr ac ke se tl at_ rp rr : Nat) (dp : Int) (tx t pg wn ro bg : Nat → Int) (htx : txOK tx tl) (hat : at_ ≤ 201) (hnm : nmM t) (hrp : rp ≤ 7) (hrr : rr ≤ 6) : SP E mX7_readRoofOf (d + 3) 0 0 [.ref m] [(m, ob 7 [.int (zz ↑np), .ref mP, .ref mW, .int (zz ↑nr), .ref mR, .ref mB, .ref mS, .int (zz ↑ac), .ref mA, .int (zz ↑ke), .ref mK, .int (zz ↑se), .ref mE, .ref mT, .int (zz ↑tl), .int (zz ↑at_), .ref mD, .int (zz ↑rp), .ref nP, .ref nW, .int (zz ↑rr), .ref nR, .ref nB, .ref mN, .ref mO, .ref mQ, .int (zz dp), .ref mX]), (mT, aI E 200 tx), (mD, aI E 4 t), (nP, aI E 21 pg), (nW, aI E 10 wn), (nR, aI E 12 ro), (nB, aI E 7 bg)] (oPost (itK tx tl 114 2 at_ t (rp, pg, wn, rr, ro, bg)) (fun x w => nmM x.2.2 ∧ w = [(m, ob 7 [.int (zz ↑np), .ref mP, .ref mW, .int (zz ↑nr), .ref mR, .ref mB, .ref mS, .int (zz ↑ac), .ref mA, .int (zz ↑ke), .ref mK, .int (zz ↑se), .ref mE, .ref mT, .int (zz ↑tl), .int (zz (↑(x.2.1))), .ref mD, .int (zz (↑(x.1.1))), .ref nP, .ref nW, .int (zz (↑(x.1.2.2.2.1))), .ref nR, .ref nB, .ref mN, .ref mO, .ref mQ, .int (zz dp), .ref mX]), (mT, aI E 200 tx), (mD, aI E 4 x.2.2), (nP, aI E 21 x.1.2.1), (nW, aI E 10 x.1.2.2.1), (nR, aI E 12 x.1.2.2.2.2.1), (nB, aI E 7 x.1.2.2.2.2.2)]) (fun w => ∃ (a2 : Nat) (t2 : Nat → Int), nmM t2 ∧ w = [(m, ob 7 [.int (zz ↑np), .ref mP, .ref mW, .int (zz ↑nr), .ref mR, .ref mB, .ref mS, .int (zz ↑ac), .ref mA, .int (zz ↑ke), .ref mK, .int (zz ↑se), .ref mE, .ref mT, .int (zz ↑tl), .int (zz ↑a2), .ref mD, .int (zz ↑rp), .ref nP, .ref nW, .int (zz ↑rr), .ref nR, .ref nB, .ref mN, .ref mO, .ref mQ, .int (zz dp), .ref mX]), (mT, aI E 200 tx), (mD, aI E 4 t2), (nP, aI E 21 pg), (nW, aI E 10 wn), (nR, aI E 12 ro), (nB, aI E 7 bg)])) := by
  show RR E mX7_readRoofOf (d + 3) 0 0 0 [(0, .ref m)] [] [(m, ob 7 [.int (zz ↑np), .ref mP, .ref mW, .int (zz ↑nr), .ref mR, .ref mB, .ref mS, .int (zz ↑ac), .ref mA, .int (zz ↑ke), .ref mK, .int (zz ↑se), .ref mE, .ref mT, .int (zz ↑tl), .int (zz ↑at_), .ref mD, .int (zz ↑rp), .ref nP, .ref nW, .int (zz ↑rr), .ref nR, .ref nB, .ref mN, .ref mO, .ref mQ, .int (zz dp), .ref mX]), (mT, aI E 200 tx), (mD, aI E 4 t), (nP, aI E 21 pg), (nW, aI E 10 wn), (nR, aI E 12 ro), (nB, aI E 7 bg)] (oPost (itK tx tl 114 2 at_ t (rp, pg, wn, rr, ro, bg)) (fun x w => nmM x.2.2 ∧ w = [(m, ob 7 [.int (zz ↑np), .ref mP, .ref mW, .int (zz ↑nr), .ref mR, .ref mB, .ref mS, .int (zz ↑ac), .ref mA, .int (zz ↑ke), .ref mK, .int (zz ↑se), .ref mE, .ref mT, .int (zz ↑tl), .int (zz (↑(x.2.1))), .ref mD, .int (zz (↑(x.1.1))), .ref nP, .ref nW, .int (zz (↑(x.1.2.2.2.1))), .ref nR, .ref nB, .ref mN, .ref mO, .ref mQ, .int (zz dp), .ref mX]), (mT, aI E 200 tx), (mD, aI E 4 x.2.2), (nP, aI E 21 x.1.2.1), (nW, aI E 10 x.1.2.2.1), (nR, aI E 12 x.1.2.2.2.2.1), (nB, aI E 7 x.1.2.2.2.2.2)]) (fun w => ∃ (a2 : Nat) (t2 : Nat → Int), nmM t2 ∧ w = [(m, ob 7 [.int (zz ↑np), .ref mP, .ref mW, .int (zz ↑nr), .ref mR, .ref mB, .ref mS, .int (zz ↑ac), .ref mA, .int (zz ↑ke), .ref mK, .int (zz ↑se), .ref mE, .ref mT, .int (zz ↑tl), .int (zz ↑a2), .ref mD, .int (zz ↑rp), .ref nP, .ref nW, .int (zz ↑rr), .ref nR, .ref nB, .ref mN, .ref mO, .ref mQ, .int (zz dp), .ref mX]), (mT, aI E 200 tx), (mD, aI E 4 t2), (nP, aI E 21 pg), (nW, aI E 10 wn), (nR, aI E 12 ro), (nB, aI E 7 bg)]))
  have hlen := htx.1
  have hsg := fun a => sgF_rg (at_ := a) htx
  refine rr_aload_n 0 dX7_readRoofOf_0 rfl ?_
  refine rr_get fX7_82 0 rfl rfl dX7_readRoofOf_1 ?_
  refine rr_bipush dX7_readRoofOf_4 (by decide) ?_
  refine rr_icmp_eq 39 dX7_readRoofOf_6 (by decide) (by omega) (by omega) (fun c_1 => ?_) (fun c_1 => ?_)
  · skip
    refine rr_iconst dX7_readRoofOf_39 ?_
    exact rr_iret dX7_readRoofOf_40 rfl rfl (oPost_none (itK_a (fun t2 => tellM_rn rfl (by omega))) ⟨at_, t, hnm, rfl⟩)
  · skip
    refine rr_aload_n 0 dX7_readRoofOf_9 rfl ?_
    refine rr_iconst dX7_readRoofOf_10 ?_
    refine rr_call (wr := [(nP, aI E 21 pg), (nW, aI E 10 wn), (nR, aI E 12 ro), (nB, aI E 7 bg)]) (call_V (q0 := 0) kX7_109 (c_readNumbers E (d + 0) m mP mW mR mB mS mA mK mE mT mD nP nW nR nB mN mO mQ mX np nr ac ke se tl at_ rp rr dp 2 tx t (by omega) htx (by omega) hnm) rfl rfl rfl rfl (by omega) (by decide) (Nat.le_of_ble_eq_true rfl) (Nat.le_of_ble_eq_true rfl) dX7_readRoofOf_11) [0, 1, 2] [3, 4, 5, 6] rfl rfl rfl rfl rfl (Nat.zero_le _) (Nat.zero_le _) (fun v w1 hp1 => ?_)
    cases hrd : rds tx tl 2 0 at_ t with
    | none =>
      rw [hrd] at hp1
      obtain ⟨rfl, a2, t2, hn2, rfl⟩ := hp1
      refine RR.eq (st2 := [.int (zz 0)]) (ws2 := [(nP, aI E 21 pg), (nW, aI E 10 wn), (nR, aI E 12 ro), (nB, aI E 7 bg), (m, ob 7 [.int (zz ↑np), .ref mP, .ref mW, .int (zz ↑nr), .ref mR, .ref mB, .ref mS, .int (zz ↑ac), .ref mA, .int (zz ↑ke), .ref mK, .int (zz ↑se), .ref mE, .ref mT, .int (zz ↑tl), .int (zz ↑a2), .ref mD, .int (zz ↑rp), .ref nP, .ref nW, .int (zz ↑rr), .ref nR, .ref nB, .ref mN, .ref mO, .ref mQ, .int (zz dp), .ref mX]), (mT, aI E 200 tx), (mD, aI E 4 t2)]) rfl rfl rfl rfl ?_
      refine RR.ws (ws2 := [(m, ob 7 [.int (zz ↑np), .ref mP, .ref mW, .int (zz ↑nr), .ref mR, .ref mB, .ref mS, .int (zz ↑ac), .ref mA, .int (zz ↑ke), .ref mK, .int (zz ↑se), .ref mE, .ref mT, .int (zz ↑tl), .int (zz ↑a2), .ref mD, .int (zz ↑rp), .ref nP, .ref nW, .int (zz ↑rr), .ref nR, .ref nB, .ref mN, .ref mO, .ref mQ, .int (zz dp), .ref mX]), (mT, aI E 200 tx), (mD, aI E 4 t2), (nP, aI E 21 pg), (nW, aI E 10 wn), (nR, aI E 12 ro), (nB, aI E 7 bg)]) [4, 5, 6, 0, 1, 2, 3] rfl rfl ?_
      refine rr_if_eq 39 dX7_readRoofOf_14 (by decide) (by omega) (fun c_2 => ?_) (fun c_2 => ?_)
      · skip
        refine rr_iconst dX7_readRoofOf_39 ?_
        exact rr_iret dX7_readRoofOf_40 rfl rfl (oPost_none (itK_r hrd) ⟨a2, t2, hn2, rfl⟩)
      · skip
        exfalso; omega
    | some x =>
      rw [hrd] at hp1
      obtain ⟨t3, a3⟩ := x
      obtain ⟨rfl, hn2, rfl⟩ := hp1
      dsimp only at hn2
      have z0 := hn2 0 (by omega)
      have z1 := hn2 1 (by omega)
      have z2 := hn2 2 (by omega)
      have z3 := hn2 3 (by omega)
      refine RR.eq (st2 := [.int (zz 1)]) (ws2 := [(nP, aI E 21 pg), (nW, aI E 10 wn), (nR, aI E 12 ro), (nB, aI E 7 bg), (m, ob 7 [.int (zz ↑np), .ref mP, .ref mW, .int (zz ↑nr), .ref mR, .ref mB, .ref mS, .int (zz ↑ac), .ref mA, .int (zz ↑ke), .ref mK, .int (zz ↑se), .ref mE, .ref mT, .int (zz ↑tl), .int (zz ↑a3), .ref mD, .int (zz ↑rp), .ref nP, .ref nW, .int (zz ↑rr), .ref nR, .ref nB, .ref mN, .ref mO, .ref mQ, .int (zz dp), .ref mX]), (mT, aI E 200 tx), (mD, aI E 4 t3)]) rfl rfl rfl rfl ?_
      refine RR.ws (ws2 := [(m, ob 7 [.int (zz ↑np), .ref mP, .ref mW, .int (zz ↑nr), .ref mR, .ref mB, .ref mS, .int (zz ↑ac), .ref mA, .int (zz ↑ke), .ref mK, .int (zz ↑se), .ref mE, .ref mT, .int (zz ↑tl), .int (zz ↑a3), .ref mD, .int (zz ↑rp), .ref nP, .ref nW, .int (zz ↑rr), .ref nR, .ref nB, .ref mN, .ref mO, .ref mQ, .int (zz dp), .ref mX]), (mT, aI E 200 tx), (mD, aI E 4 t3), (nP, aI E 21 pg), (nW, aI E 10 wn), (nR, aI E 12 ro), (nB, aI E 7 bg)]) [4, 5, 6, 0, 1, 2, 3] rfl rfl ?_
      refine rr_if_eq 39 dX7_readRoofOf_14 (by decide) (by omega) (fun c_3 => ?_) (fun c_3 => ?_)
      · skip
        exfalso; omega
      · skip
        refine rr_aload_n 0 dX7_readRoofOf_17 rfl ?_
        refine rr_iconst dX7_readRoofOf_18 ?_
        refine rr_iconst dX7_readRoofOf_19 ?_
        refine rr_bipush dX7_readRoofOf_20 (by decide) ?_
        refine rr_callFi (ws2 := [(m, ob 7 [.int (zz ↑np), .ref mP, .ref mW, .int (zz ↑nr), .ref mR, .ref mB, .ref mS, .int (zz ↑ac), .ref mA, .int (zz ↑ke), .ref mK, .int (zz ↑se), .ref mE, .ref mT, .int (zz ↑tl), .int (zz ↑a3), .ref mD, .int (zz ↑rp), .ref nP, .ref nW, .int (zz ↑rr), .ref nR, .ref nB, .ref mN, .ref mO, .ref mQ, .int (zz dp), .ref mX]), (mT, aI E 200 tx), (mD, aI E 4 t3), (nP, aI E 21 pg), (nW, aI E 10 wn), (nR, aI E 12 ro), (nB, aI E 7 bg)]) (wr := [(mT, aI E 200 tx), (nP, aI E 21 pg), (nW, aI E 10 wn), (nR, aI E 12 ro), (nB, aI E 7 bg)]) (call_V (q0 := 0) kX7_112 (c_isTold E (d + 1) m mP mW mR mB mS mA mK mE mT mD nP nW nR nB mN mO mQ mX np nr ac ke se tl a3 rp rr dp t3 0 0 9 (by omega) hn2 (by omega) (by omega)) rfl rfl rfl rfl (by omega) (by decide) (Nat.le_of_ble_eq_true rfl) (Nat.le_of_ble_eq_true rfl) dX7_readRoofOf_22) [0, 2] [1, 3, 4, 5, 6] [5, 0, 6, 1, 2, 3, 4] rfl rfl rfl rfl rfl rfl rfl ?_
        refine rr_if_eqD 39 dX7_readRoofOf_25 (by decide) (fun c_4 => ?_) (fun c_4 => ?_)
        · skip
          refine rr_iconst dX7_readRoofOf_39 ?_
          exact rr_iret dX7_readRoofOf_40 rfl rfl (oPost_none (itK_n (x := (t3, a3)) hrd (tellM_rn (t := t3) rfl (by omega))) ⟨a3, t3, hn2, rfl⟩)
        · skip
          refine rr_aload_n 0 dX7_readRoofOf_28 rfl ?_
          refine rr_iconst dX7_readRoofOf_29 ?_
          refine rr_iconst dX7_readRoofOf_30 ?_
          refine rr_bipush dX7_readRoofOf_31 (by decide) ?_
          refine rr_callFi (ws2 := [(m, ob 7 [.int (zz ↑np), .ref mP, .ref mW, .int (zz ↑nr), .ref mR, .ref mB, .ref mS, .int (zz ↑ac), .ref mA, .int (zz ↑ke), .ref mK, .int (zz ↑se), .ref mE, .ref mT, .int (zz ↑tl), .int (zz ↑a3), .ref mD, .int (zz ↑rp), .ref nP, .ref nW, .int (zz ↑rr), .ref nR, .ref nB, .ref mN, .ref mO, .ref mQ, .int (zz dp), .ref mX]), (mT, aI E 200 tx), (mD, aI E 4 t3), (nP, aI E 21 pg), (nW, aI E 10 wn), (nR, aI E 12 ro), (nB, aI E 7 bg)]) (wr := [(mT, aI E 200 tx), (nP, aI E 21 pg), (nW, aI E 10 wn), (nR, aI E 12 ro), (nB, aI E 7 bg)]) (call_V (q0 := 0) kX7_112 (c_isTold E (d + 1) m mP mW mR mB mS mA mK mE mT mD nP nW nR nB mN mO mQ mX np nr ac ke se tl a3 rp rr dp t3 1 0 9 (by omega) hn2 (by omega) (by omega)) rfl rfl rfl rfl (by omega) (by decide) (Nat.le_of_ble_eq_true rfl) (Nat.le_of_ble_eq_true rfl) dX7_readRoofOf_33) [0, 2] [1, 3, 4, 5, 6] [5, 0, 6, 1, 2, 3, 4] rfl rfl rfl rfl rfl rfl rfl ?_
          refine rr_if_neD 41 dX7_readRoofOf_36 (by decide) (fun c_5 => ?_) (fun c_5 => ?_)
          · skip
            refine rr_aload_n 0 dX7_readRoofOf_41 rfl ?_
            refine rr_aload_n 0 dX7_readRoofOf_42 rfl ?_
            refine rr_get fX7_37 0 rfl rfl dX7_readRoofOf_43 ?_
            refine rr_iconst dX7_readRoofOf_46 ?_
            refine rr_iald 2 0 rfl rfl (by omega) (by omega) dX7_readRoofOf_47 ?_
            refine rr_aload_n 0 dX7_readRoofOf_48 rfl ?_
            refine rr_get fX7_37 0 rfl rfl dX7_readRoofOf_49 ?_
            refine rr_iconst dX7_readRoofOf_52 ?_
            refine rr_iald 2 1 rfl rfl (by omega) (by omega) dX7_readRoofOf_53 ?_
            refine rr_callFv (ws2 := [(m, ob 7 [.int (zz ↑np), .ref mP, .ref mW, .int (zz ↑nr), .ref mR, .ref mB, .ref mS, .int (zz ↑ac), .ref mA, .int (zz ↑ke), .ref mK, .int (zz ↑se), .ref mE, .ref mT, .int (zz ↑tl), .int (zz ↑a3), .ref mD, .int (zz ↑rp), .ref nP, .ref nW, .int (zz (↑(rr + 1))), .ref nR, .ref nB, .ref mN, .ref mO, .ref mQ, .int (zz dp), .ref mX]), (mT, aI E 200 tx), (mD, aI E 4 t3), (nP, aI E 21 pg), (nW, aI E 10 wn), (nR, aI E 12 (updI (updI ro (2 * rr) (t3 0)) (2 * rr + 1) (t3 1))), (nB, aI E 7 bg)]) (wr := [(mT, aI E 200 tx), (mD, aI E 4 t3), (nP, aI E 21 pg), (nW, aI E 10 wn), (nB, aI E 7 bg)]) (call_V (q0 := 0) kX7_71 (c_tellsRoof E (d + 2) m mP mW mR mB mS mA mK mE mT mD nP nW nR nB mN mO mQ mX np nr ac ke se tl a3 rp rr dp ro (t3 0) (t3 1) (by omega)) rfl rfl rfl rfl (by omega) (by decide) (Nat.le_of_ble_eq_true rfl) (Nat.le_of_ble_eq_true rfl) dX7_readRoofOf_54) [0, 5] [1, 2, 3, 4, 6] [5, 0, 1, 2, 3, 6, 4] rfl rfl rfl rfl rfl rfl rfl ?_
            refine rr_iconst dX7_readRoofOf_57 ?_
            exact rr_iret dX7_readRoofOf_58 rfl rfl (oPost_some (itK_s (x := (t3, a3)) hrd (tellM_r (t := t3) rfl (by omega))) ⟨hn2, rfl⟩)
          · skip
            refine rr_iconst dX7_readRoofOf_39 ?_
            exact rr_iret dX7_readRoofOf_40 rfl rfl (oPost_none (itK_n (x := (t3, a3)) hrd (tellM_rn (t := t3) rfl (by omega))) ⟨a3, t3, hn2, rfl⟩)
set_option maxRecDepth 100000 in
set_option maxHeartbeats 400000 in
theorem c_readBeginsOf (E : Ev) (d : Nat) (m mP mW mR mB mS mA mK mE mT mD nP nW nR nB mN mO mQ mX : Nat) (np nr ac ke se tl at_ rp rr : Nat) (dp : Int) (tx t pg wn ro bg : Nat → Int) (htx : txOK tx tl) (hat : at_ ≤ 201) (hnm : nmM t) (hrp : rp ≤ 7) (hrr : rr ≤ 6) : SP E mX7_readBeginsOf (d + 3) 0 0 [.ref m] [(m, ob 7 [.int (zz ↑np), .ref mP, .ref mW, .int (zz ↑nr), .ref mR, .ref mB, .ref mS, .int (zz ↑ac), .ref mA, .int (zz ↑ke), .ref mK, .int (zz ↑se), .ref mE, .ref mT, .int (zz ↑tl), .int (zz ↑at_), .ref mD, .int (zz ↑rp), .ref nP, .ref nW, .int (zz ↑rr), .ref nR, .ref nB, .ref mN, .ref mO, .ref mQ, .int (zz dp), .ref mX]), (mT, aI E 200 tx), (mD, aI E 4 t), (nP, aI E 21 pg), (nW, aI E 10 wn), (nR, aI E 12 ro), (nB, aI E 7 bg)] (oPost (itK tx tl 98 4 at_ t (rp, pg, wn, rr, ro, bg)) (fun x w => nmM x.2.2 ∧ w = [(m, ob 7 [.int (zz ↑np), .ref mP, .ref mW, .int (zz ↑nr), .ref mR, .ref mB, .ref mS, .int (zz ↑ac), .ref mA, .int (zz ↑ke), .ref mK, .int (zz ↑se), .ref mE, .ref mT, .int (zz ↑tl), .int (zz (↑(x.2.1))), .ref mD, .int (zz (↑(x.1.1))), .ref nP, .ref nW, .int (zz (↑(x.1.2.2.2.1))), .ref nR, .ref nB, .ref mN, .ref mO, .ref mQ, .int (zz dp), .ref mX]), (mT, aI E 200 tx), (mD, aI E 4 x.2.2), (nP, aI E 21 x.1.2.1), (nW, aI E 10 x.1.2.2.1), (nR, aI E 12 x.1.2.2.2.2.1), (nB, aI E 7 x.1.2.2.2.2.2)]) (fun w => ∃ (a2 : Nat) (t2 : Nat → Int), nmM t2 ∧ w = [(m, ob 7 [.int (zz ↑np), .ref mP, .ref mW, .int (zz ↑nr), .ref mR, .ref mB, .ref mS, .int (zz ↑ac), .ref mA, .int (zz ↑ke), .ref mK, .int (zz ↑se), .ref mE, .ref mT, .int (zz ↑tl), .int (zz ↑a2), .ref mD, .int (zz ↑rp), .ref nP, .ref nW, .int (zz ↑rr), .ref nR, .ref nB, .ref mN, .ref mO, .ref mQ, .int (zz dp), .ref mX]), (mT, aI E 200 tx), (mD, aI E 4 t2), (nP, aI E 21 pg), (nW, aI E 10 wn), (nR, aI E 12 ro), (nB, aI E 7 bg)])) := by
  show RR E mX7_readBeginsOf (d + 3) 0 0 0 [(0, .ref m)] [] [(m, ob 7 [.int (zz ↑np), .ref mP, .ref mW, .int (zz ↑nr), .ref mR, .ref mB, .ref mS, .int (zz ↑ac), .ref mA, .int (zz ↑ke), .ref mK, .int (zz ↑se), .ref mE, .ref mT, .int (zz ↑tl), .int (zz ↑at_), .ref mD, .int (zz ↑rp), .ref nP, .ref nW, .int (zz ↑rr), .ref nR, .ref nB, .ref mN, .ref mO, .ref mQ, .int (zz dp), .ref mX]), (mT, aI E 200 tx), (mD, aI E 4 t), (nP, aI E 21 pg), (nW, aI E 10 wn), (nR, aI E 12 ro), (nB, aI E 7 bg)] (oPost (itK tx tl 98 4 at_ t (rp, pg, wn, rr, ro, bg)) (fun x w => nmM x.2.2 ∧ w = [(m, ob 7 [.int (zz ↑np), .ref mP, .ref mW, .int (zz ↑nr), .ref mR, .ref mB, .ref mS, .int (zz ↑ac), .ref mA, .int (zz ↑ke), .ref mK, .int (zz ↑se), .ref mE, .ref mT, .int (zz ↑tl), .int (zz (↑(x.2.1))), .ref mD, .int (zz (↑(x.1.1))), .ref nP, .ref nW, .int (zz (↑(x.1.2.2.2.1))), .ref nR, .ref nB, .ref mN, .ref mO, .ref mQ, .int (zz dp), .ref mX]), (mT, aI E 200 tx), (mD, aI E 4 x.2.2), (nP, aI E 21 x.1.2.1), (nW, aI E 10 x.1.2.2.1), (nR, aI E 12 x.1.2.2.2.2.1), (nB, aI E 7 x.1.2.2.2.2.2)]) (fun w => ∃ (a2 : Nat) (t2 : Nat → Int), nmM t2 ∧ w = [(m, ob 7 [.int (zz ↑np), .ref mP, .ref mW, .int (zz ↑nr), .ref mR, .ref mB, .ref mS, .int (zz ↑ac), .ref mA, .int (zz ↑ke), .ref mK, .int (zz ↑se), .ref mE, .ref mT, .int (zz ↑tl), .int (zz ↑a2), .ref mD, .int (zz ↑rp), .ref nP, .ref nW, .int (zz ↑rr), .ref nR, .ref nB, .ref mN, .ref mO, .ref mQ, .int (zz dp), .ref mX]), (mT, aI E 200 tx), (mD, aI E 4 t2), (nP, aI E 21 pg), (nW, aI E 10 wn), (nR, aI E 12 ro), (nB, aI E 7 bg)]))
  have hlen := htx.1
  have hsg := fun a => sgF_rg (at_ := a) htx
  refine rr_aload_n 0 dX7_readBeginsOf_0 rfl ?_
  refine rr_iconst dX7_readBeginsOf_1 ?_
  refine rr_call (wr := [(nP, aI E 21 pg), (nW, aI E 10 wn), (nR, aI E 12 ro), (nB, aI E 7 bg)]) (call_V (q0 := 0) kX7_109 (c_readNumbers E (d + 0) m mP mW mR mB mS mA mK mE mT mD nP nW nR nB mN mO mQ mX np nr ac ke se tl at_ rp rr dp 4 tx t (by omega) htx (by omega) hnm) rfl rfl rfl rfl (by omega) (by decide) (Nat.le_of_ble_eq_true rfl) (Nat.le_of_ble_eq_true rfl) dX7_readBeginsOf_2) [0, 1, 2] [3, 4, 5, 6] rfl rfl rfl rfl rfl (Nat.zero_le _) (Nat.zero_le _) (fun v w1 hp1 => ?_)
  cases hrd : rds tx tl 4 0 at_ t with
  | none =>
    rw [hrd] at hp1
    obtain ⟨rfl, a2, t2, hn2, rfl⟩ := hp1
    refine RR.eq (st2 := [.int (zz 0)]) (ws2 := [(nP, aI E 21 pg), (nW, aI E 10 wn), (nR, aI E 12 ro), (nB, aI E 7 bg), (m, ob 7 [.int (zz ↑np), .ref mP, .ref mW, .int (zz ↑nr), .ref mR, .ref mB, .ref mS, .int (zz ↑ac), .ref mA, .int (zz ↑ke), .ref mK, .int (zz ↑se), .ref mE, .ref mT, .int (zz ↑tl), .int (zz ↑a2), .ref mD, .int (zz ↑rp), .ref nP, .ref nW, .int (zz ↑rr), .ref nR, .ref nB, .ref mN, .ref mO, .ref mQ, .int (zz dp), .ref mX]), (mT, aI E 200 tx), (mD, aI E 4 t2)]) rfl rfl rfl rfl ?_
    refine RR.ws (ws2 := [(m, ob 7 [.int (zz ↑np), .ref mP, .ref mW, .int (zz ↑nr), .ref mR, .ref mB, .ref mS, .int (zz ↑ac), .ref mA, .int (zz ↑ke), .ref mK, .int (zz ↑se), .ref mE, .ref mT, .int (zz ↑tl), .int (zz ↑a2), .ref mD, .int (zz ↑rp), .ref nP, .ref nW, .int (zz ↑rr), .ref nR, .ref nB, .ref mN, .ref mO, .ref mQ, .int (zz dp), .ref mX]), (mT, aI E 200 tx), (mD, aI E 4 t2), (nP, aI E 21 pg), (nW, aI E 10 wn), (nR, aI E 12 ro), (nB, aI E 7 bg)]) [4, 5, 6, 0, 1, 2, 3] rfl rfl ?_
    refine rr_if_eq 51 dX7_readBeginsOf_5 (by decide) (by omega) (fun c_1 => ?_) (fun c_1 => ?_)
    · skip
      refine rr_iconst dX7_readBeginsOf_51 ?_
      exact rr_iret dX7_readBeginsOf_52 rfl rfl (oPost_none (itK_r hrd) ⟨a2, t2, hn2, rfl⟩)
    · skip
      exfalso; omega
  | some x =>
    rw [hrd] at hp1
    obtain ⟨t3, a3⟩ := x
    obtain ⟨rfl, hn2, rfl⟩ := hp1
    dsimp only at hn2
    have z0 := hn2 0 (by omega)
    have z1 := hn2 1 (by omega)
    have z2 := hn2 2 (by omega)
    have z3 := hn2 3 (by omega)
    refine RR.eq (st2 := [.int (zz 1)]) (ws2 := [(nP, aI E 21 pg), (nW, aI E 10 wn), (nR, aI E 12 ro), (nB, aI E 7 bg), (m, ob 7 [.int (zz ↑np), .ref mP, .ref mW, .int (zz ↑nr), .ref mR, .ref mB, .ref mS, .int (zz ↑ac), .ref mA, .int (zz ↑ke), .ref mK, .int (zz ↑se), .ref mE, .ref mT, .int (zz ↑tl), .int (zz ↑a3), .ref mD, .int (zz ↑rp), .ref nP, .ref nW, .int (zz ↑rr), .ref nR, .ref nB, .ref mN, .ref mO, .ref mQ, .int (zz dp), .ref mX]), (mT, aI E 200 tx), (mD, aI E 4 t3)]) rfl rfl rfl rfl ?_
    refine RR.ws (ws2 := [(m, ob 7 [.int (zz ↑np), .ref mP, .ref mW, .int (zz ↑nr), .ref mR, .ref mB, .ref mS, .int (zz ↑ac), .ref mA, .int (zz ↑ke), .ref mK, .int (zz ↑se), .ref mE, .ref mT, .int (zz ↑tl), .int (zz ↑a3), .ref mD, .int (zz ↑rp), .ref nP, .ref nW, .int (zz ↑rr), .ref nR, .ref nB, .ref mN, .ref mO, .ref mQ, .int (zz dp), .ref mX]), (mT, aI E 200 tx), (mD, aI E 4 t3), (nP, aI E 21 pg), (nW, aI E 10 wn), (nR, aI E 12 ro), (nB, aI E 7 bg)]) [4, 5, 6, 0, 1, 2, 3] rfl rfl ?_
    refine rr_if_eq 51 dX7_readBeginsOf_5 (by decide) (by omega) (fun c_2 => ?_) (fun c_2 => ?_)
    · skip
      exfalso; omega
    · skip
      refine rr_aload_n 0 dX7_readBeginsOf_8 rfl ?_
      refine rr_iconst dX7_readBeginsOf_9 ?_
      refine rr_iconst dX7_readBeginsOf_10 ?_
      refine rr_bipush dX7_readBeginsOf_11 (by decide) ?_
      refine rr_callFi (ws2 := [(m, ob 7 [.int (zz ↑np), .ref mP, .ref mW, .int (zz ↑nr), .ref mR, .ref mB, .ref mS, .int (zz ↑ac), .ref mA, .int (zz ↑ke), .ref mK, .int (zz ↑se), .ref mE, .ref mT, .int (zz ↑tl), .int (zz ↑a3), .ref mD, .int (zz ↑rp), .ref nP, .ref nW, .int (zz ↑rr), .ref nR, .ref nB, .ref mN, .ref mO, .ref mQ, .int (zz dp), .ref mX]), (mT, aI E 200 tx), (mD, aI E 4 t3), (nP, aI E 21 pg), (nW, aI E 10 wn), (nR, aI E 12 ro), (nB, aI E 7 bg)]) (wr := [(mT, aI E 200 tx), (nP, aI E 21 pg), (nW, aI E 10 wn), (nR, aI E 12 ro), (nB, aI E 7 bg)]) (call_V (q0 := 0) kX7_112 (c_isTold E (d + 1) m mP mW mR mB mS mA mK mE mT mD nP nW nR nB mN mO mQ mX np nr ac ke se tl a3 rp rr dp t3 0 0 9 (by omega) hn2 (by omega) (by omega)) rfl rfl rfl rfl (by omega) (by decide) (Nat.le_of_ble_eq_true rfl) (Nat.le_of_ble_eq_true rfl) dX7_readBeginsOf_13) [0, 2] [1, 3, 4, 5, 6] [5, 0, 6, 1, 2, 3, 4] rfl rfl rfl rfl rfl rfl rfl ?_
      refine rr_if_eqD 51 dX7_readBeginsOf_16 (by decide) (fun c_3 => ?_) (fun c_3 => ?_)
      · skip
        refine rr_iconst dX7_readBeginsOf_51 ?_
        exact rr_iret dX7_readBeginsOf_52 rfl rfl (oPost_none (itK_n (x := (t3, a3)) hrd (tellM_bn (t := t3) rfl (by omega))) ⟨a3, t3, hn2, rfl⟩)
      · skip
        refine rr_aload_n 0 dX7_readBeginsOf_19 rfl ?_
        refine rr_iconst dX7_readBeginsOf_20 ?_
        refine rr_iconst dX7_readBeginsOf_21 ?_
        refine rr_bipush dX7_readBeginsOf_22 (by decide) ?_
        refine rr_callFi (ws2 := [(m, ob 7 [.int (zz ↑np), .ref mP, .ref mW, .int (zz ↑nr), .ref mR, .ref mB, .ref mS, .int (zz ↑ac), .ref mA, .int (zz ↑ke), .ref mK, .int (zz ↑se), .ref mE, .ref mT, .int (zz ↑tl), .int (zz ↑a3), .ref mD, .int (zz ↑rp), .ref nP, .ref nW, .int (zz ↑rr), .ref nR, .ref nB, .ref mN, .ref mO, .ref mQ, .int (zz dp), .ref mX]), (mT, aI E 200 tx), (mD, aI E 4 t3), (nP, aI E 21 pg), (nW, aI E 10 wn), (nR, aI E 12 ro), (nB, aI E 7 bg)]) (wr := [(mT, aI E 200 tx), (nP, aI E 21 pg), (nW, aI E 10 wn), (nR, aI E 12 ro), (nB, aI E 7 bg)]) (call_V (q0 := 0) kX7_112 (c_isTold E (d + 1) m mP mW mR mB mS mA mK mE mT mD nP nW nR nB mN mO mQ mX np nr ac ke se tl a3 rp rr dp t3 1 0 9 (by omega) hn2 (by omega) (by omega)) rfl rfl rfl rfl (by omega) (by decide) (Nat.le_of_ble_eq_true rfl) (Nat.le_of_ble_eq_true rfl) dX7_readBeginsOf_24) [0, 2] [1, 3, 4, 5, 6] [5, 0, 6, 1, 2, 3, 4] rfl rfl rfl rfl rfl rfl rfl ?_
        refine rr_if_eqD 51 dX7_readBeginsOf_27 (by decide) (fun c_4 => ?_) (fun c_4 => ?_)
        · skip
          refine rr_iconst dX7_readBeginsOf_51 ?_
          exact rr_iret dX7_readBeginsOf_52 rfl rfl (oPost_none (itK_n (x := (t3, a3)) hrd (tellM_bn (t := t3) rfl (by omega))) ⟨a3, t3, hn2, rfl⟩)
        · skip
          refine rr_aload_n 0 dX7_readBeginsOf_30 rfl ?_
          refine rr_iconst dX7_readBeginsOf_31 ?_
          refine rr_iconst dX7_readBeginsOf_32 ?_
          refine rr_bipush dX7_readBeginsOf_33 (by decide) ?_
          refine rr_callFi (ws2 := [(m, ob 7 [.int (zz ↑np), .ref mP, .ref mW, .int (zz ↑nr), .ref mR, .ref mB, .ref mS, .int (zz ↑ac), .ref mA, .int (zz ↑ke), .ref mK, .int (zz ↑se), .ref mE, .ref mT, .int (zz ↑tl), .int (zz ↑a3), .ref mD, .int (zz ↑rp), .ref nP, .ref nW, .int (zz ↑rr), .ref nR, .ref nB, .ref mN, .ref mO, .ref mQ, .int (zz dp), .ref mX]), (mT, aI E 200 tx), (mD, aI E 4 t3), (nP, aI E 21 pg), (nW, aI E 10 wn), (nR, aI E 12 ro), (nB, aI E 7 bg)]) (wr := [(mT, aI E 200 tx), (nP, aI E 21 pg), (nW, aI E 10 wn), (nR, aI E 12 ro), (nB, aI E 7 bg)]) (call_V (q0 := 0) kX7_112 (c_isTold E (d + 1) m mP mW mR mB mS mA mK mE mT mD nP nW nR nB mN mO mQ mX np nr ac ke se tl a3 rp rr dp t3 2 1 9 (by omega) hn2 (by omega) (by omega)) rfl rfl rfl rfl (by omega) (by decide) (Nat.le_of_ble_eq_true rfl) (Nat.le_of_ble_eq_true rfl) dX7_readBeginsOf_35) [0, 2] [1, 3, 4, 5, 6] [5, 0, 6, 1, 2, 3, 4] rfl rfl rfl rfl rfl rfl rfl ?_
          refine rr_if_eqD 51 dX7_readBeginsOf_38 (by decide) (fun c_5 => ?_) (fun c_5 => ?_)
          · skip
            refine rr_iconst dX7_readBeginsOf_51 ?_
            exact rr_iret dX7_readBeginsOf_52 rfl rfl (oPost_none (itK_n (x := (t3, a3)) hrd (tellM_bn (t := t3) rfl (by omega))) ⟨a3, t3, hn2, rfl⟩)
          · skip
            refine rr_aload_n 0 dX7_readBeginsOf_41 rfl ?_
            refine rr_iconst dX7_readBeginsOf_42 ?_
            refine rr_iconst dX7_readBeginsOf_43 ?_
            refine rr_iconst dX7_readBeginsOf_44 ?_
            refine rr_callFi (ws2 := [(m, ob 7 [.int (zz ↑np), .ref mP, .ref mW, .int (zz ↑nr), .ref mR, .ref mB, .ref mS, .int (zz ↑ac), .ref mA, .int (zz ↑ke), .ref mK, .int (zz ↑se), .ref mE, .ref mT, .int (zz ↑tl), .int (zz ↑a3), .ref mD, .int (zz ↑rp), .ref nP, .ref nW, .int (zz ↑rr), .ref nR, .ref nB, .ref mN, .ref mO, .ref mQ, .int (zz dp), .ref mX]), (mT, aI E 200 tx), (mD, aI E 4 t3), (nP, aI E 21 pg), (nW, aI E 10 wn), (nR, aI E 12 ro), (nB, aI E 7 bg)]) (wr := [(mT, aI E 200 tx), (nP, aI E 21 pg), (nW, aI E 10 wn), (nR, aI E 12 ro), (nB, aI E 7 bg)]) (call_V (q0 := 0) kX7_112 (c_isTold E (d + 1) m mP mW mR mB mS mA mK mE mT mD nP nW nR nB mN mO mQ mX np nr ac ke se tl a3 rp rr dp t3 3 0 3 (by omega) hn2 (by omega) (by omega)) rfl rfl rfl rfl (by omega) (by decide) (Nat.le_of_ble_eq_true rfl) (Nat.le_of_ble_eq_true rfl) dX7_readBeginsOf_45) [0, 2] [1, 3, 4, 5, 6] [5, 0, 6, 1, 2, 3, 4] rfl rfl rfl rfl rfl rfl rfl ?_
            refine rr_if_neD 53 dX7_readBeginsOf_48 (by decide) (fun c_6 => ?_) (fun c_6 => ?_)
            · skip
              refine rr_iconst dX7_readBeginsOf_53 ?_
              refine rr_istore_n (lv2 := [(0, .ref m), (1, .int (zz 0))]) dX7_readBeginsOf_54 (by decide) rfl ?_
              refine rr_iload_n 1 dX7_readBeginsOf_55 rfl ?_
              refine rr_iconst dX7_readBeginsOf_56 ?_
              refine rr_icmp_ge 78 dX7_readBeginsOf_57 (by decide) (by omega) (by omega) (fun c_7 => ?_) (fun c_7 => ?_)
              · skip
                exfalso; omega
              · skip
                refine rr_aload_n 0 dX7_readBeginsOf_60 rfl ?_
                refine rr_get fX7_49 0 rfl rfl dX7_readBeginsOf_61 ?_
                refine rr_iload_n 1 dX7_readBeginsOf_64 rfl ?_
                refine rr_aload_n 0 dX7_readBeginsOf_65 rfl ?_
                refine rr_get fX7_37 0 rfl rfl dX7_readBeginsOf_66 ?_
                refine rr_iload_n 1 dX7_readBeginsOf_69 rfl ?_
                refine rr_iald 2 0 rfl rfl (by omega) (by omega) dX7_readBeginsOf_70 ?_
                refine rr_iast (ws2 := [(m, ob 7 [.int (zz ↑np), .ref mP, .ref mW, .int (zz ↑nr), .ref mR, .ref mB, .ref mS, .int (zz ↑ac), .ref mA, .int (zz ↑ke), .ref mK, .int (zz ↑se), .ref mE, .ref mT, .int (zz ↑tl), .int (zz ↑a3), .ref mD, .int (zz ↑rp), .ref nP, .ref nW, .int (zz ↑rr), .ref nR, .ref nB, .ref mN, .ref mO, .ref mQ, .int (zz dp), .ref mX]), (mT, aI E 200 tx), (mD, aI E 4 t3), (nP, aI E 21 pg), (nW, aI E 10 wn), (nR, aI E 12 ro), (nB, aI E 7 (updI bg 0 (t3 0)))]) 6 0 rfl rfl (by omega) (by omega) rfl dX7_readBeginsOf_71 ?_
                refine rr_iinc (lv2 := [(0, .ref m), (1, .int (zz 1))]) 1 dX7_readBeginsOf_72 rfl (by decide) rfl ?_
                refine rr_goto 55 dX7_readBeginsOf_75 (by decide) ?_
                refine rr_iload_n 1 dX7_readBeginsOf_55 rfl ?_
                refine rr_iconst dX7_readBeginsOf_56 ?_
                refine rr_icmp_ge 78 dX7_readBeginsOf_57 (by decide) (by omega) (by omega) (fun c_8 => ?_) (fun c_8 => ?_)
                · skip
                  exfalso; omega
                · skip
                  refine rr_aload_n 0 dX7_readBeginsOf_60 rfl ?_
                  refine rr_get fX7_49 0 rfl rfl dX7_readBeginsOf_61 ?_
                  refine rr_iload_n 1 dX7_readBeginsOf_64 rfl ?_
                  refine rr_aload_n 0 dX7_readBeginsOf_65 rfl ?_
                  refine rr_get fX7_37 0 rfl rfl dX7_readBeginsOf_66 ?_
                  refine rr_iload_n 1 dX7_readBeginsOf_69 rfl ?_
                  refine rr_iald 2 1 rfl rfl (by omega) (by omega) dX7_readBeginsOf_70 ?_
                  refine rr_iast (ws2 := [(m, ob 7 [.int (zz ↑np), .ref mP, .ref mW, .int (zz ↑nr), .ref mR, .ref mB, .ref mS, .int (zz ↑ac), .ref mA, .int (zz ↑ke), .ref mK, .int (zz ↑se), .ref mE, .ref mT, .int (zz ↑tl), .int (zz ↑a3), .ref mD, .int (zz ↑rp), .ref nP, .ref nW, .int (zz ↑rr), .ref nR, .ref nB, .ref mN, .ref mO, .ref mQ, .int (zz dp), .ref mX]), (mT, aI E 200 tx), (mD, aI E 4 t3), (nP, aI E 21 pg), (nW, aI E 10 wn), (nR, aI E 12 ro), (nB, aI E 7 (updI (updI bg 0 (t3 0)) 1 (t3 1)))]) 6 1 rfl rfl (by omega) (by omega) rfl dX7_readBeginsOf_71 ?_
                  refine rr_iinc (lv2 := [(0, .ref m), (1, .int (zz 2))]) 1 dX7_readBeginsOf_72 rfl (by decide) rfl ?_
                  refine rr_goto 55 dX7_readBeginsOf_75 (by decide) ?_
                  refine rr_iload_n 1 dX7_readBeginsOf_55 rfl ?_
                  refine rr_iconst dX7_readBeginsOf_56 ?_
                  refine rr_icmp_ge 78 dX7_readBeginsOf_57 (by decide) (by omega) (by omega) (fun c_9 => ?_) (fun c_9 => ?_)
                  · skip
                    exfalso; omega
                  · skip
                    refine rr_aload_n 0 dX7_readBeginsOf_60 rfl ?_
                    refine rr_get fX7_49 0 rfl rfl dX7_readBeginsOf_61 ?_
                    refine rr_iload_n 1 dX7_readBeginsOf_64 rfl ?_
                    refine rr_aload_n 0 dX7_readBeginsOf_65 rfl ?_
                    refine rr_get fX7_37 0 rfl rfl dX7_readBeginsOf_66 ?_
                    refine rr_iload_n 1 dX7_readBeginsOf_69 rfl ?_
                    refine rr_iald 2 2 rfl rfl (by omega) (by omega) dX7_readBeginsOf_70 ?_
                    refine rr_iast (ws2 := [(m, ob 7 [.int (zz ↑np), .ref mP, .ref mW, .int (zz ↑nr), .ref mR, .ref mB, .ref mS, .int (zz ↑ac), .ref mA, .int (zz ↑ke), .ref mK, .int (zz ↑se), .ref mE, .ref mT, .int (zz ↑tl), .int (zz ↑a3), .ref mD, .int (zz ↑rp), .ref nP, .ref nW, .int (zz ↑rr), .ref nR, .ref nB, .ref mN, .ref mO, .ref mQ, .int (zz dp), .ref mX]), (mT, aI E 200 tx), (mD, aI E 4 t3), (nP, aI E 21 pg), (nW, aI E 10 wn), (nR, aI E 12 ro), (nB, aI E 7 (updI (updI (updI bg 0 (t3 0)) 1 (t3 1)) 2 (t3 2)))]) 6 2 rfl rfl (by omega) (by omega) rfl dX7_readBeginsOf_71 ?_
                    refine rr_iinc (lv2 := [(0, .ref m), (1, .int (zz 3))]) 1 dX7_readBeginsOf_72 rfl (by decide) rfl ?_
                    refine rr_goto 55 dX7_readBeginsOf_75 (by decide) ?_
                    refine rr_iload_n 1 dX7_readBeginsOf_55 rfl ?_
                    refine rr_iconst dX7_readBeginsOf_56 ?_
                    refine rr_icmp_ge 78 dX7_readBeginsOf_57 (by decide) (by omega) (by omega) (fun c_10 => ?_) (fun c_10 => ?_)
                    · skip
                      exfalso; omega
                    · skip
                      refine rr_aload_n 0 dX7_readBeginsOf_60 rfl ?_
                      refine rr_get fX7_49 0 rfl rfl dX7_readBeginsOf_61 ?_
                      refine rr_iload_n 1 dX7_readBeginsOf_64 rfl ?_
                      refine rr_aload_n 0 dX7_readBeginsOf_65 rfl ?_
                      refine rr_get fX7_37 0 rfl rfl dX7_readBeginsOf_66 ?_
                      refine rr_iload_n 1 dX7_readBeginsOf_69 rfl ?_
                      refine rr_iald 2 3 rfl rfl (by omega) (by omega) dX7_readBeginsOf_70 ?_
                      refine rr_iast (ws2 := [(m, ob 7 [.int (zz ↑np), .ref mP, .ref mW, .int (zz ↑nr), .ref mR, .ref mB, .ref mS, .int (zz ↑ac), .ref mA, .int (zz ↑ke), .ref mK, .int (zz ↑se), .ref mE, .ref mT, .int (zz ↑tl), .int (zz ↑a3), .ref mD, .int (zz ↑rp), .ref nP, .ref nW, .int (zz ↑rr), .ref nR, .ref nB, .ref mN, .ref mO, .ref mQ, .int (zz dp), .ref mX]), (mT, aI E 200 tx), (mD, aI E 4 t3), (nP, aI E 21 pg), (nW, aI E 10 wn), (nR, aI E 12 ro), (nB, aI E 7 (updI (updI (updI (updI bg 0 (t3 0)) 1 (t3 1)) 2 (t3 2)) 3 (t3 3)))]) 6 3 rfl rfl (by omega) (by omega) rfl dX7_readBeginsOf_71 ?_
                      refine rr_iinc (lv2 := [(0, .ref m), (1, .int (zz 4))]) 1 dX7_readBeginsOf_72 rfl (by decide) rfl ?_
                      refine rr_goto 55 dX7_readBeginsOf_75 (by decide) ?_
                      refine rr_iload_n 1 dX7_readBeginsOf_55 rfl ?_
                      refine rr_iconst dX7_readBeginsOf_56 ?_
                      refine rr_icmp_ge 78 dX7_readBeginsOf_57 (by decide) (by omega) (by omega) (fun c_11 => ?_) (fun c_11 => ?_)
                      · skip
                        refine rr_iconst dX7_readBeginsOf_78 ?_
                        exact rr_iret dX7_readBeginsOf_79 rfl rfl (oPost_some (itK_s (x := (t3, a3)) hrd (tellM_b (t := t3) rfl (by omega))) ⟨hn2, rfl⟩)
                      · skip
                        exfalso; omega
            · skip
              refine rr_iconst dX7_readBeginsOf_51 ?_
              exact rr_iret dX7_readBeginsOf_52 rfl rfl (oPost_none (itK_n (x := (t3, a3)) hrd (tellM_bn (t := t3) rfl (by omega))) ⟨a3, t3, hn2, rfl⟩)
set_option maxRecDepth 100000 in
set_option maxHeartbeats 400000 in
theorem c_readRidersOf (E : Ev) (d : Nat) (m mP mW mR mB mS mA mK mE mT mD nP nW nR nB mN mO mQ mX : Nat) (np nr ac ke se tl at_ rp rr : Nat) (dp : Int) (tx t pg wn ro bg : Nat → Int) (htx : txOK tx tl) (hat : at_ ≤ 201) (hnm : nmM t) (hrp : rp ≤ 7) (hrr : rr ≤ 6) : SP E mX7_readRidersOf (d + 3) 0 0 [.ref m] [(m, ob 7 [.int (zz ↑np), .ref mP, .ref mW, .int (zz ↑nr), .ref mR, .ref mB, .ref mS, .int (zz ↑ac), .ref mA, .int (zz ↑ke), .ref mK, .int (zz ↑se), .ref mE, .ref mT, .int (zz ↑tl), .int (zz ↑at_), .ref mD, .int (zz ↑rp), .ref nP, .ref nW, .int (zz ↑rr), .ref nR, .ref nB, .ref mN, .ref mO, .ref mQ, .int (zz dp), .ref mX]), (mT, aI E 200 tx), (mD, aI E 4 t), (nP, aI E 21 pg), (nW, aI E 10 wn), (nR, aI E 12 ro), (nB, aI E 7 bg)] (oPost (itK tx tl 116 1 at_ t (rp, pg, wn, rr, ro, bg)) (fun x w => nmM x.2.2 ∧ w = [(m, ob 7 [.int (zz ↑np), .ref mP, .ref mW, .int (zz ↑nr), .ref mR, .ref mB, .ref mS, .int (zz ↑ac), .ref mA, .int (zz ↑ke), .ref mK, .int (zz ↑se), .ref mE, .ref mT, .int (zz ↑tl), .int (zz (↑(x.2.1))), .ref mD, .int (zz (↑(x.1.1))), .ref nP, .ref nW, .int (zz (↑(x.1.2.2.2.1))), .ref nR, .ref nB, .ref mN, .ref mO, .ref mQ, .int (zz dp), .ref mX]), (mT, aI E 200 tx), (mD, aI E 4 x.2.2), (nP, aI E 21 x.1.2.1), (nW, aI E 10 x.1.2.2.1), (nR, aI E 12 x.1.2.2.2.2.1), (nB, aI E 7 x.1.2.2.2.2.2)]) (fun w => ∃ (a2 : Nat) (t2 : Nat → Int), nmM t2 ∧ w = [(m, ob 7 [.int (zz ↑np), .ref mP, .ref mW, .int (zz ↑nr), .ref mR, .ref mB, .ref mS, .int (zz ↑ac), .ref mA, .int (zz ↑ke), .ref mK, .int (zz ↑se), .ref mE, .ref mT, .int (zz ↑tl), .int (zz ↑a2), .ref mD, .int (zz ↑rp), .ref nP, .ref nW, .int (zz ↑rr), .ref nR, .ref nB, .ref mN, .ref mO, .ref mQ, .int (zz dp), .ref mX]), (mT, aI E 200 tx), (mD, aI E 4 t2), (nP, aI E 21 pg), (nW, aI E 10 wn), (nR, aI E 12 ro), (nB, aI E 7 bg)])) := by
  show RR E mX7_readRidersOf (d + 3) 0 0 0 [(0, .ref m)] [] [(m, ob 7 [.int (zz ↑np), .ref mP, .ref mW, .int (zz ↑nr), .ref mR, .ref mB, .ref mS, .int (zz ↑ac), .ref mA, .int (zz ↑ke), .ref mK, .int (zz ↑se), .ref mE, .ref mT, .int (zz ↑tl), .int (zz ↑at_), .ref mD, .int (zz ↑rp), .ref nP, .ref nW, .int (zz ↑rr), .ref nR, .ref nB, .ref mN, .ref mO, .ref mQ, .int (zz dp), .ref mX]), (mT, aI E 200 tx), (mD, aI E 4 t), (nP, aI E 21 pg), (nW, aI E 10 wn), (nR, aI E 12 ro), (nB, aI E 7 bg)] (oPost (itK tx tl 116 1 at_ t (rp, pg, wn, rr, ro, bg)) (fun x w => nmM x.2.2 ∧ w = [(m, ob 7 [.int (zz ↑np), .ref mP, .ref mW, .int (zz ↑nr), .ref mR, .ref mB, .ref mS, .int (zz ↑ac), .ref mA, .int (zz ↑ke), .ref mK, .int (zz ↑se), .ref mE, .ref mT, .int (zz ↑tl), .int (zz (↑(x.2.1))), .ref mD, .int (zz (↑(x.1.1))), .ref nP, .ref nW, .int (zz (↑(x.1.2.2.2.1))), .ref nR, .ref nB, .ref mN, .ref mO, .ref mQ, .int (zz dp), .ref mX]), (mT, aI E 200 tx), (mD, aI E 4 x.2.2), (nP, aI E 21 x.1.2.1), (nW, aI E 10 x.1.2.2.1), (nR, aI E 12 x.1.2.2.2.2.1), (nB, aI E 7 x.1.2.2.2.2.2)]) (fun w => ∃ (a2 : Nat) (t2 : Nat → Int), nmM t2 ∧ w = [(m, ob 7 [.int (zz ↑np), .ref mP, .ref mW, .int (zz ↑nr), .ref mR, .ref mB, .ref mS, .int (zz ↑ac), .ref mA, .int (zz ↑ke), .ref mK, .int (zz ↑se), .ref mE, .ref mT, .int (zz ↑tl), .int (zz ↑a2), .ref mD, .int (zz ↑rp), .ref nP, .ref nW, .int (zz ↑rr), .ref nR, .ref nB, .ref mN, .ref mO, .ref mQ, .int (zz dp), .ref mX]), (mT, aI E 200 tx), (mD, aI E 4 t2), (nP, aI E 21 pg), (nW, aI E 10 wn), (nR, aI E 12 ro), (nB, aI E 7 bg)]))
  have hlen := htx.1
  have hsg := fun a => sgF_rg (at_ := a) htx
  refine rr_aload_n 0 dX7_readRidersOf_0 rfl ?_
  refine rr_iconst dX7_readRidersOf_1 ?_
  refine rr_call (wr := [(nP, aI E 21 pg), (nW, aI E 10 wn), (nR, aI E 12 ro), (nB, aI E 7 bg)]) (call_V (q0 := 0) kX7_109 (c_readNumbers E (d + 0) m mP mW mR mB mS mA mK mE mT mD nP nW nR nB mN mO mQ mX np nr ac ke se tl at_ rp rr dp 1 tx t (by omega) htx (by omega) hnm) rfl rfl rfl rfl (by omega) (by decide) (Nat.le_of_ble_eq_true rfl) (Nat.le_of_ble_eq_true rfl) dX7_readRidersOf_2) [0, 1, 2] [3, 4, 5, 6] rfl rfl rfl rfl rfl (Nat.zero_le _) (Nat.zero_le _) (fun v w1 hp1 => ?_)
  cases hrd : rds tx tl 1 0 at_ t with
  | none =>
    rw [hrd] at hp1
    obtain ⟨rfl, a2, t2, hn2, rfl⟩ := hp1
    refine RR.eq (st2 := [.int (zz 0)]) (ws2 := [(nP, aI E 21 pg), (nW, aI E 10 wn), (nR, aI E 12 ro), (nB, aI E 7 bg), (m, ob 7 [.int (zz ↑np), .ref mP, .ref mW, .int (zz ↑nr), .ref mR, .ref mB, .ref mS, .int (zz ↑ac), .ref mA, .int (zz ↑ke), .ref mK, .int (zz ↑se), .ref mE, .ref mT, .int (zz ↑tl), .int (zz ↑a2), .ref mD, .int (zz ↑rp), .ref nP, .ref nW, .int (zz ↑rr), .ref nR, .ref nB, .ref mN, .ref mO, .ref mQ, .int (zz dp), .ref mX]), (mT, aI E 200 tx), (mD, aI E 4 t2)]) rfl rfl rfl rfl ?_
    refine RR.ws (ws2 := [(m, ob 7 [.int (zz ↑np), .ref mP, .ref mW, .int (zz ↑nr), .ref mR, .ref mB, .ref mS, .int (zz ↑ac), .ref mA, .int (zz ↑ke), .ref mK, .int (zz ↑se), .ref mE, .ref mT, .int (zz ↑tl), .int (zz ↑a2), .ref mD, .int (zz ↑rp), .ref nP, .ref nW, .int (zz ↑rr), .ref nR, .ref nB, .ref mN, .ref mO, .ref mQ, .int (zz dp), .ref mX]), (mT, aI E 200 tx), (mD, aI E 4 t2), (nP, aI E 21 pg), (nW, aI E 10 wn), (nR, aI E 12 ro), (nB, aI E 7 bg)]) [4, 5, 6, 0, 1, 2, 3] rfl rfl ?_
    refine rr_if_eq 18 dX7_readRidersOf_5 (by decide) (by omega) (fun c_1 => ?_) (fun c_1 => ?_)
    · skip
      refine rr_iconst dX7_readRidersOf_18 ?_
      exact rr_iret dX7_readRidersOf_19 rfl rfl (oPost_none (itK_r hrd) ⟨a2, t2, hn2, rfl⟩)
    · skip
      exfalso; omega
  | some x =>
    rw [hrd] at hp1
    obtain ⟨t3, a3⟩ := x
    obtain ⟨rfl, hn2, rfl⟩ := hp1
    dsimp only at hn2
    have z0 := hn2 0 (by omega)
    have z1 := hn2 1 (by omega)
    have z2 := hn2 2 (by omega)
    have z3 := hn2 3 (by omega)
    refine RR.eq (st2 := [.int (zz 1)]) (ws2 := [(nP, aI E 21 pg), (nW, aI E 10 wn), (nR, aI E 12 ro), (nB, aI E 7 bg), (m, ob 7 [.int (zz ↑np), .ref mP, .ref mW, .int (zz ↑nr), .ref mR, .ref mB, .ref mS, .int (zz ↑ac), .ref mA, .int (zz ↑ke), .ref mK, .int (zz ↑se), .ref mE, .ref mT, .int (zz ↑tl), .int (zz ↑a3), .ref mD, .int (zz ↑rp), .ref nP, .ref nW, .int (zz ↑rr), .ref nR, .ref nB, .ref mN, .ref mO, .ref mQ, .int (zz dp), .ref mX]), (mT, aI E 200 tx), (mD, aI E 4 t3)]) rfl rfl rfl rfl ?_
    refine RR.ws (ws2 := [(m, ob 7 [.int (zz ↑np), .ref mP, .ref mW, .int (zz ↑nr), .ref mR, .ref mB, .ref mS, .int (zz ↑ac), .ref mA, .int (zz ↑ke), .ref mK, .int (zz ↑se), .ref mE, .ref mT, .int (zz ↑tl), .int (zz ↑a3), .ref mD, .int (zz ↑rp), .ref nP, .ref nW, .int (zz ↑rr), .ref nR, .ref nB, .ref mN, .ref mO, .ref mQ, .int (zz dp), .ref mX]), (mT, aI E 200 tx), (mD, aI E 4 t3), (nP, aI E 21 pg), (nW, aI E 10 wn), (nR, aI E 12 ro), (nB, aI E 7 bg)]) [4, 5, 6, 0, 1, 2, 3] rfl rfl ?_
    refine rr_if_eq 18 dX7_readRidersOf_5 (by decide) (by omega) (fun c_2 => ?_) (fun c_2 => ?_)
    · skip
      exfalso; omega
    · skip
      refine rr_aload_n 0 dX7_readRidersOf_8 rfl ?_
      refine rr_iconst dX7_readRidersOf_9 ?_
      refine rr_iconst dX7_readRidersOf_10 ?_
      refine rr_iconst dX7_readRidersOf_11 ?_
      refine rr_callFi (ws2 := [(m, ob 7 [.int (zz ↑np), .ref mP, .ref mW, .int (zz ↑nr), .ref mR, .ref mB, .ref mS, .int (zz ↑ac), .ref mA, .int (zz ↑ke), .ref mK, .int (zz ↑se), .ref mE, .ref mT, .int (zz ↑tl), .int (zz ↑a3), .ref mD, .int (zz ↑rp), .ref nP, .ref nW, .int (zz ↑rr), .ref nR, .ref nB, .ref mN, .ref mO, .ref mQ, .int (zz dp), .ref mX]), (mT, aI E 200 tx), (mD, aI E 4 t3), (nP, aI E 21 pg), (nW, aI E 10 wn), (nR, aI E 12 ro), (nB, aI E 7 bg)]) (wr := [(mT, aI E 200 tx), (nP, aI E 21 pg), (nW, aI E 10 wn), (nR, aI E 12 ro), (nB, aI E 7 bg)]) (call_V (q0 := 0) kX7_112 (c_isTold E (d + 1) m mP mW mR mB mS mA mK mE mT mD nP nW nR nB mN mO mQ mX np nr ac ke se tl a3 rp rr dp t3 0 1 2 (by omega) hn2 (by omega) (by omega)) rfl rfl rfl rfl (by omega) (by decide) (Nat.le_of_ble_eq_true rfl) (Nat.le_of_ble_eq_true rfl) dX7_readRidersOf_12) [0, 2] [1, 3, 4, 5, 6] [5, 0, 6, 1, 2, 3, 4] rfl rfl rfl rfl rfl rfl rfl ?_
      refine rr_if_neD 20 dX7_readRidersOf_15 (by decide) (fun c_3 => ?_) (fun c_3 => ?_)
      · skip
        refine rr_aload_n 0 dX7_readRidersOf_20 rfl ?_
        refine rr_get fX7_49 0 rfl rfl dX7_readRidersOf_21 ?_
        refine rr_iconst dX7_readRidersOf_24 ?_
        refine rr_aload_n 0 dX7_readRidersOf_25 rfl ?_
        refine rr_get fX7_37 0 rfl rfl dX7_readRidersOf_26 ?_
        refine rr_iconst dX7_readRidersOf_29 ?_
        refine rr_iald 2 0 rfl rfl (by omega) (by omega) dX7_readRidersOf_30 ?_
        refine rr_iast (ws2 := [(m, ob 7 [.int (zz ↑np), .ref mP, .ref mW, .int (zz ↑nr), .ref mR, .ref mB, .ref mS, .int (zz ↑ac), .ref mA, .int (zz ↑ke), .ref mK, .int (zz ↑se), .ref mE, .ref mT, .int (zz ↑tl), .int (zz ↑a3), .ref mD, .int (zz ↑rp), .ref nP, .ref nW, .int (zz ↑rr), .ref nR, .ref nB, .ref mN, .ref mO, .ref mQ, .int (zz dp), .ref mX]), (mT, aI E 200 tx), (mD, aI E 4 t3), (nP, aI E 21 pg), (nW, aI E 10 wn), (nR, aI E 12 ro), (nB, aI E 7 (updI bg 5 (t3 0)))]) 6 5 rfl rfl (by omega) (by omega) rfl dX7_readRidersOf_31 ?_
        refine rr_iconst dX7_readRidersOf_32 ?_
        exact rr_iret dX7_readRidersOf_33 rfl rfl (oPost_some (itK_s (x := (t3, a3)) hrd (tellM_t (t := t3) rfl (by omega))) ⟨hn2, rfl⟩)
      · skip
        refine rr_iconst dX7_readRidersOf_18 ?_
        exact rr_iret dX7_readRidersOf_19 rfl rfl (oPost_none (itK_n (x := (t3, a3)) hrd (tellM_tn (t := t3) rfl (by omega))) ⟨a3, t3, hn2, rfl⟩)
set_option maxRecDepth 100000 in
set_option maxHeartbeats 400000 in
theorem c_MreadItem (E : Ev) (d : Nat) (m mP mW mR mB mS mA mK mE mT mD nP nW nR nB mN mO mQ mX : Nat) (np nr ac ke se tl at_ rp rr : Nat) (dp : Int) (tx t pg wn ro bg : Nat → Int) (htx : txOK tx tl) (hat : at_ < tl) (hnm : nmM t) (hrp : rp ≤ 7) (hrr : rr ≤ 6) : SP E mX7_readItem (d + 4) 0 0 [.ref m] [(m, ob 7 [.int (zz ↑np), .ref mP, .ref mW, .int (zz ↑nr), .ref mR, .ref mB, .ref mS, .int (zz ↑ac), .ref mA, .int (zz ↑ke), .ref mK, .int (zz ↑se), .ref mE, .ref mT, .int (zz ↑tl), .int (zz ↑at_), .ref mD, .int (zz ↑rp), .ref nP, .ref nW, .int (zz ↑rr), .ref nR, .ref nB, .ref mN, .ref mO, .ref mQ, .int (zz dp), .ref mX]), (mT, aI E 200 tx), (mD, aI E 4 t), (nP, aI E 21 pg), (nW, aI E 10 wn), (nR, aI E 12 ro), (nB, aI E 7 bg)] (oPost (itM tx tl at_ t (rp, pg, wn, rr, ro, bg)) (fun x w => nmM x.2.2 ∧ w = [(m, ob 7 [.int (zz ↑np), .ref mP, .ref mW, .int (zz ↑nr), .ref mR, .ref mB, .ref mS, .int (zz ↑ac), .ref mA, .int (zz ↑ke), .ref mK, .int (zz ↑se), .ref mE, .ref mT, .int (zz ↑tl), .int (zz (↑(x.2.1))), .ref mD, .int (zz (↑(x.1.1))), .ref nP, .ref nW, .int (zz (↑(x.1.2.2.2.1))), .ref nR, .ref nB, .ref mN, .ref mO, .ref mQ, .int (zz dp), .ref mX]), (mT, aI E 200 tx), (mD, aI E 4 x.2.2), (nP, aI E 21 x.1.2.1), (nW, aI E 10 x.1.2.2.1), (nR, aI E 12 x.1.2.2.2.2.1), (nB, aI E 7 x.1.2.2.2.2.2)]) (fun w => ∃ (a2 : Nat) (t2 : Nat → Int), nmM t2 ∧ w = [(m, ob 7 [.int (zz ↑np), .ref mP, .ref mW, .int (zz ↑nr), .ref mR, .ref mB, .ref mS, .int (zz ↑ac), .ref mA, .int (zz ↑ke), .ref mK, .int (zz ↑se), .ref mE, .ref mT, .int (zz ↑tl), .int (zz ↑a2), .ref mD, .int (zz ↑rp), .ref nP, .ref nW, .int (zz ↑rr), .ref nR, .ref nB, .ref mN, .ref mO, .ref mQ, .int (zz dp), .ref mX]), (mT, aI E 200 tx), (mD, aI E 4 t2), (nP, aI E 21 pg), (nW, aI E 10 wn), (nR, aI E 12 ro), (nB, aI E 7 bg)])) := by
  show RR E mX7_readItem (d + 4) 0 0 0 [(0, .ref m)] [] [(m, ob 7 [.int (zz ↑np), .ref mP, .ref mW, .int (zz ↑nr), .ref mR, .ref mB, .ref mS, .int (zz ↑ac), .ref mA, .int (zz ↑ke), .ref mK, .int (zz ↑se), .ref mE, .ref mT, .int (zz ↑tl), .int (zz ↑at_), .ref mD, .int (zz ↑rp), .ref nP, .ref nW, .int (zz ↑rr), .ref nR, .ref nB, .ref mN, .ref mO, .ref mQ, .int (zz dp), .ref mX]), (mT, aI E 200 tx), (mD, aI E 4 t), (nP, aI E 21 pg), (nW, aI E 10 wn), (nR, aI E 12 ro), (nB, aI E 7 bg)] (oPost (itM tx tl at_ t (rp, pg, wn, rr, ro, bg)) (fun x w => nmM x.2.2 ∧ w = [(m, ob 7 [.int (zz ↑np), .ref mP, .ref mW, .int (zz ↑nr), .ref mR, .ref mB, .ref mS, .int (zz ↑ac), .ref mA, .int (zz ↑ke), .ref mK, .int (zz ↑se), .ref mE, .ref mT, .int (zz ↑tl), .int (zz (↑(x.2.1))), .ref mD, .int (zz (↑(x.1.1))), .ref nP, .ref nW, .int (zz (↑(x.1.2.2.2.1))), .ref nR, .ref nB, .ref mN, .ref mO, .ref mQ, .int (zz dp), .ref mX]), (mT, aI E 200 tx), (mD, aI E 4 x.2.2), (nP, aI E 21 x.1.2.1), (nW, aI E 10 x.1.2.2.1), (nR, aI E 12 x.1.2.2.2.2.1), (nB, aI E 7 x.1.2.2.2.2.2)]) (fun w => ∃ (a2 : Nat) (t2 : Nat → Int), nmM t2 ∧ w = [(m, ob 7 [.int (zz ↑np), .ref mP, .ref mW, .int (zz ↑nr), .ref mR, .ref mB, .ref mS, .int (zz ↑ac), .ref mA, .int (zz ↑ke), .ref mK, .int (zz ↑se), .ref mE, .ref mT, .int (zz ↑tl), .int (zz ↑a2), .ref mD, .int (zz ↑rp), .ref nP, .ref nW, .int (zz ↑rr), .ref nR, .ref nB, .ref mN, .ref mO, .ref mQ, .int (zz dp), .ref mX]), (mT, aI E 200 tx), (mD, aI E 4 t2), (nP, aI E 21 pg), (nW, aI E 10 wn), (nR, aI E 12 ro), (nB, aI E 7 bg)]))
  have hlen := htx.1
  have hsg := fun a => sgF_rg (at_ := a) htx
  have q0 := lgM_sg tx tl at_
  have g0 := hsg at_
  have eL : lgM tx tl at_ = sgF tx tl at_ := by omega
  refine rr_aload_n 0 dX7_readItem_0 rfl ?_
  refine rr_aload_n 0 dX7_readItem_1 rfl ?_
  refine rr_get fX7_98 0 rfl rfl dX7_readItem_2 ?_
  refine rr_callFi (ws2 := [(m, ob 7 [.int (zz ↑np), .ref mP, .ref mW, .int (zz ↑nr), .ref mR, .ref mB, .ref mS, .int (zz ↑ac), .ref mA, .int (zz ↑ke), .ref mK, .int (zz ↑se), .ref mE, .ref mT, .int (zz ↑tl), .int (zz ↑at_), .ref mD, .int (zz ↑rp), .ref nP, .ref nW, .int (zz ↑rr), .ref nR, .ref nB, .ref mN, .ref mO, .ref mQ, .int (zz dp), .ref mX]), (mT, aI E 200 tx), (mD, aI E 4 t), (nP, aI E 21 pg), (nW, aI E 10 wn), (nR, aI E 12 ro), (nB, aI E 7 bg)]) (wr := [(mD, aI E 4 t), (nP, aI E 21 pg), (nW, aI E 10 wn), (nR, aI E 12 ro), (nB, aI E 7 bg)]) (call_V (q0 := 0) kX7_101 (c_letterAt E (d + 3) m mP mW mR mB mS mA mK mE mT mD nP nW nR nB mN mO mQ mX np nr ac ke se tl at_ rp rr dp tx at_ htx (by omega)) rfl rfl rfl rfl (by omega) (by decide) (Nat.le_of_ble_eq_true rfl) (Nat.le_of_ble_eq_true rfl) dX7_readItem_5) [0, 1] [2, 3, 4, 5, 6] [5, 6, 0, 1, 2, 3, 4] rfl rfl rfl rfl rfl rfl rfl ?_
  refine rr_istore_n (lv2 := [(0, .ref m), (1, .int (zz (lgM tx tl at_)))]) dX7_readItem_8 (by decide) rfl ?_
  refine rr_aload_n 0 dX7_readItem_9 rfl ?_
  refine rr_dup dX7_readItem_10 rfl ?_
  refine rr_get fX7_98 0 rfl rfl dX7_readItem_11 ?_
  refine rr_iconst dX7_readItem_14 ?_
  refine rr_iadd dX7_readItem_15 ?_
  refine rr_put (ws2 := [(m, ob 7 [.int (zz ↑np), .ref mP, .ref mW, .int (zz ↑nr), .ref mR, .ref mB, .ref mS, .int (zz ↑ac), .ref mA, .int (zz ↑ke), .ref mK, .int (zz ↑se), .ref mE, .ref mT, .int (zz ↑tl), .int (zz (↑(at_ + 1))), .ref mD, .int (zz ↑rp), .ref nP, .ref nW, .int (zz ↑rr), .ref nR, .ref nB, .ref mN, .ref mO, .ref mQ, .int (zz dp), .ref mX]), (mT, aI E 200 tx), (mD, aI E 4 t), (nP, aI E 21 pg), (nW, aI E 10 wn), (nR, aI E 12 ro), (nB, aI E 7 bg)]) fX7_98 0 rfl rfl rfl (Nat.le_of_ble_eq_true rfl) rfl dX7_readItem_16 ?_
  refine rr_iload_n 1 dX7_readItem_19 rfl ?_
  by_cases s_1_0 : (lgM tx tl at_) = 98
  · refine rr_lsw (off := 67) 87 dX7_readItem_20 (by decide) (by omega) (by rw [s_1_0]; decide) (by decide) ?_
    refine rr_aload_n 0 dX7_readItem_87 rfl ?_
    have eI : itM tx tl at_ t (rp, pg, wn, rr, ro, bg) = itK tx tl 98 4 (at_ + 1) t (rp, pg, wn, rr, ro, bg) := by unfold itM; rw [← eL, s_1_0]; rfl
    refine rr_call (wr := []) (call_V (q0 := 0) kX7_125 (c_readBeginsOf E (d + 0) m mP mW mR mB mS mA mK mE mT mD nP nW nR nB mN mO mQ mX np nr ac ke se tl (at_ + 1) rp rr dp tx t pg wn ro bg htx (by omega) hnm hrp hrr) rfl rfl rfl rfl (by omega) (by decide) (Nat.le_of_ble_eq_true rfl) (Nat.le_of_ble_eq_true rfl) dX7_readItem_88) [0, 1, 2, 3, 4, 5, 6] [] rfl rfl rfl rfl rfl (Nat.zero_le _) (Nat.zero_le _) (fun v w1 hp1 => ?_)
    cases hit : itK tx tl 98 4 (at_ + 1) t (rp, pg, wn, rr, ro, bg) with
    | none =>
      rw [hit] at hp1
      obtain ⟨rfl, a2, t2, hn2, rfl⟩ := hp1
      exact rr_iret dX7_readItem_91 rfl rfl (oPost_none (eI.trans hit) ⟨a2, t2, hn2, rfl⟩)
    | some x =>
      rw [hit] at hp1
      obtain ⟨rfl, hn2, rfl⟩ := hp1
      exact rr_iret dX7_readItem_91 rfl rfl (oPost_some (eI.trans hit) ⟨hn2, rfl⟩)
  by_cases s_1_1 : (lgM tx tl at_) = 112
  · refine rr_lsw (off := 52) 72 dX7_readItem_20 (by decide) (by omega) (by rw [s_1_1]; decide) (by decide) ?_
    refine rr_aload_n 0 dX7_readItem_72 rfl ?_
    have eI : itM tx tl at_ t (rp, pg, wn, rr, ro, bg) = itK tx tl 112 3 (at_ + 1) t (rp, pg, wn, rr, ro, bg) := by unfold itM; rw [← eL, s_1_1]; rfl
    refine rr_call (wr := []) (call_V (q0 := 0) kX7_115 (c_readPegOf E (d + 0) m mP mW mR mB mS mA mK mE mT mD nP nW nR nB mN mO mQ mX np nr ac ke se tl (at_ + 1) rp rr dp tx t pg wn ro bg htx (by omega) hnm hrp hrr) rfl rfl rfl rfl (by omega) (by decide) (Nat.le_of_ble_eq_true rfl) (Nat.le_of_ble_eq_true rfl) dX7_readItem_73) [0, 1, 2, 3, 4, 5, 6] [] rfl rfl rfl rfl rfl (Nat.zero_le _) (Nat.zero_le _) (fun v w1 hp1 => ?_)
    cases hit : itK tx tl 112 3 (at_ + 1) t (rp, pg, wn, rr, ro, bg) with
    | none =>
      rw [hit] at hp1
      obtain ⟨rfl, a2, t2, hn2, rfl⟩ := hp1
      exact rr_iret dX7_readItem_76 rfl rfl (oPost_none (eI.trans hit) ⟨a2, t2, hn2, rfl⟩)
    | some x =>
      rw [hit] at hp1
      obtain ⟨rfl, hn2, rfl⟩ := hp1
      exact rr_iret dX7_readItem_76 rfl rfl (oPost_some (eI.trans hit) ⟨hn2, rfl⟩)
  by_cases s_1_2 : (lgM tx tl at_) = 114
  · refine rr_lsw (off := 62) 82 dX7_readItem_20 (by decide) (by omega) (by rw [s_1_2]; decide) (by decide) ?_
    refine rr_aload_n 0 dX7_readItem_82 rfl ?_
    have eI : itM tx tl at_ t (rp, pg, wn, rr, ro, bg) = itK tx tl 114 2 (at_ + 1) t (rp, pg, wn, rr, ro, bg) := by unfold itM; rw [← eL, s_1_2]; rfl
    refine rr_call (wr := []) (call_V (q0 := 0) kX7_122 (c_readRoofOf E (d + 0) m mP mW mR mB mS mA mK mE mT mD nP nW nR nB mN mO mQ mX np nr ac ke se tl (at_ + 1) rp rr dp tx t pg wn ro bg htx (by omega) hnm hrp hrr) rfl rfl rfl rfl (by omega) (by decide) (Nat.le_of_ble_eq_true rfl) (Nat.le_of_ble_eq_true rfl) dX7_readItem_83) [0, 1, 2, 3, 4, 5, 6] [] rfl rfl rfl rfl rfl (Nat.zero_le _) (Nat.zero_le _) (fun v w1 hp1 => ?_)
    cases hit : itK tx tl 114 2 (at_ + 1) t (rp, pg, wn, rr, ro, bg) with
    | none =>
      rw [hit] at hp1
      obtain ⟨rfl, a2, t2, hn2, rfl⟩ := hp1
      exact rr_iret dX7_readItem_86 rfl rfl (oPost_none (eI.trans hit) ⟨a2, t2, hn2, rfl⟩)
    | some x =>
      rw [hit] at hp1
      obtain ⟨rfl, hn2, rfl⟩ := hp1
      exact rr_iret dX7_readItem_86 rfl rfl (oPost_some (eI.trans hit) ⟨hn2, rfl⟩)
  by_cases s_1_3 : (lgM tx tl at_) = 116
  · refine rr_lsw (off := 72) 92 dX7_readItem_20 (by decide) (by omega) (by rw [s_1_3]; decide) (by decide) ?_
    refine rr_aload_n 0 dX7_readItem_92 rfl ?_
    have eI : itM tx tl at_ t (rp, pg, wn, rr, ro, bg) = itK tx tl 116 1 (at_ + 1) t (rp, pg, wn, rr, ro, bg) := by unfold itM; rw [← eL, s_1_3]; rfl
    refine rr_call (wr := []) (call_V (q0 := 0) kX7_128 (c_readRidersOf E (d + 0) m mP mW mR mB mS mA mK mE mT mD nP nW nR nB mN mO mQ mX np nr ac ke se tl (at_ + 1) rp rr dp tx t pg wn ro bg htx (by omega) hnm hrp hrr) rfl rfl rfl rfl (by omega) (by decide) (Nat.le_of_ble_eq_true rfl) (Nat.le_of_ble_eq_true rfl) dX7_readItem_93) [0, 1, 2, 3, 4, 5, 6] [] rfl rfl rfl rfl rfl (Nat.zero_le _) (Nat.zero_le _) (fun v w1 hp1 => ?_)
    cases hit : itK tx tl 116 1 (at_ + 1) t (rp, pg, wn, rr, ro, bg) with
    | none =>
      rw [hit] at hp1
      obtain ⟨rfl, a2, t2, hn2, rfl⟩ := hp1
      exact rr_iret dX7_readItem_96 rfl rfl (oPost_none (eI.trans hit) ⟨a2, t2, hn2, rfl⟩)
    | some x =>
      rw [hit] at hp1
      obtain ⟨rfl, hn2, rfl⟩ := hp1
      exact rr_iret dX7_readItem_96 rfl rfl (oPost_some (eI.trans hit) ⟨hn2, rfl⟩)
  by_cases s_1_4 : (lgM tx tl at_) = 119
  · refine rr_lsw (off := 57) 77 dX7_readItem_20 (by decide) (by omega) (by rw [s_1_4]; decide) (by decide) ?_
    refine rr_aload_n 0 dX7_readItem_77 rfl ?_
    have eI : itM tx tl at_ t (rp, pg, wn, rr, ro, bg) = itK tx tl 119 2 (at_ + 1) t (rp, pg, wn, rr, ro, bg) := by unfold itM; rw [← eL, s_1_4]; rfl
    refine rr_call (wr := []) (call_V (q0 := 0) kX7_119 (c_readWindOf E (d + 0) m mP mW mR mB mS mA mK mE mT mD nP nW nR nB mN mO mQ mX np nr ac ke se tl (at_ + 1) rp rr dp tx t pg wn ro bg htx (by omega) hnm hrp hrr) rfl rfl rfl rfl (by omega) (by decide) (Nat.le_of_ble_eq_true rfl) (Nat.le_of_ble_eq_true rfl) dX7_readItem_78) [0, 1, 2, 3, 4, 5, 6] [] rfl rfl rfl rfl rfl (Nat.zero_le _) (Nat.zero_le _) (fun v w1 hp1 => ?_)
    cases hit : itK tx tl 119 2 (at_ + 1) t (rp, pg, wn, rr, ro, bg) with
    | none =>
      rw [hit] at hp1
      obtain ⟨rfl, a2, t2, hn2, rfl⟩ := hp1
      exact rr_iret dX7_readItem_81 rfl rfl (oPost_none (eI.trans hit) ⟨a2, t2, hn2, rfl⟩)
    | some x =>
      rw [hit] at hp1
      obtain ⟨rfl, hn2, rfl⟩ := hp1
      exact rr_iret dX7_readItem_81 rfl rfl (oPost_some (eI.trans hit) ⟨hn2, rfl⟩)
  have rs_1_0 : ¬ (98 : Int) = (lgM tx tl at_) := fun h => s_1_0 h.symm
  have rs_1_1 : ¬ (112 : Int) = (lgM tx tl at_) := fun h => s_1_1 h.symm
  have rs_1_2 : ¬ (114 : Int) = (lgM tx tl at_) := fun h => s_1_2 h.symm
  have rs_1_3 : ¬ (116 : Int) = (lgM tx tl at_) := fun h => s_1_3 h.symm
  have rs_1_4 : ¬ (119 : Int) = (lgM tx tl at_) := fun h => s_1_4 h.symm
  refine rr_lsw (off := 77) 97 dX7_readItem_20 (by decide) (by omega) (by simp [Op.lookupswitch.offset, rs_1_0, rs_1_1, rs_1_2, rs_1_3, rs_1_4]) (by decide) ?_
  refine rr_iconst dX7_readItem_97 ?_
  exact rr_iret dX7_readItem_98 rfl rfl (oPost_none (itK_a (fun t2 => tellM_d (by rw [← eL]; refine ⟨?_, ?_, ?_, ?_, ?_⟩ <;> assumption))) ⟨at_ + 1, t, hnm, rfl⟩)
set_option maxRecDepth 100000 in
set_option maxHeartbeats 400000 in
theorem c_Mfault (E : Ev) (d : Nat) (m mP mW mR mB mS mA mK mE mT mD nP nW nR nB mN mO mQ mX : Nat) (np nr ac ke se tl at_ rp rr : Nat) (dp : Int) (tx t pg wn ro bg : Nat → Int) (htx : txOK tx tl) (hnm : nmM t) : SP E mX7_fault (d + 5) 0 0 [.ref m] [(m, ob 7 [.int (zz ↑np), .ref mP, .ref mW, .int (zz ↑nr), .ref mR, .ref mB, .ref mS, .int (zz ↑ac), .ref mA, .int (zz ↑ke), .ref mK, .int (zz ↑se), .ref mE, .ref mT, .int (zz ↑tl), .int (zz ↑at_), .ref mD, .int (zz ↑rp), .ref nP, .ref nW, .int (zz ↑rr), .ref nR, .ref nB, .ref mN, .ref mO, .ref mQ, .int (zz dp), .ref mX]), (mT, aI E 200 tx), (mD, aI E 4 t), (nP, aI E 21 pg), (nW, aI E 10 wn), (nR, aI E 12 ro), (nB, aI E 7 bg)] (fun v w => v = some (.int (zz (psM tx tl 200 0 t (clrM (rp, pg, wn, rr, ro, bg))).1)) ∧ ∃ (a2 : Nat) (t2 : Nat → Int), nmM t2 ∧ w = [(m, ob 7 [.int (zz ↑np), .ref mP, .ref mW, .int (zz ↑nr), .ref mR, .ref mB, .ref mS, .int (zz ↑ac), .ref mA, .int (zz ↑ke), .ref mK, .int (zz ↑se), .ref mE, .ref mT, .int (zz ↑tl), .int (zz ↑a2), .ref mD, .int (zz (↑((psM tx tl 200 0 t (clrM (rp, pg, wn, rr, ro, bg))).2.1))), .ref nP, .ref nW, .int (zz (↑((psM tx tl 200 0 t (clrM (rp, pg, wn, rr, ro, bg))).2.2.2.2.1))), .ref nR, .ref nB, .ref mN, .ref mO, .ref mQ, .int (zz dp), .ref mX]), (mT, aI E 200 tx), (mD, aI E 4 t2), (nP, aI E 21 ((psM tx tl 200 0 t (clrM (rp, pg, wn, rr, ro, bg))).2.2.1)), (nW, aI E 10 ((psM tx tl 200 0 t (clrM (rp, pg, wn, rr, ro, bg))).2.2.2.1)), (nR, aI E 12 ((psM tx tl 200 0 t (clrM (rp, pg, wn, rr, ro, bg))).2.2.2.2.2.1)), (nB, aI E 7 ((psM tx tl 200 0 t (clrM (rp, pg, wn, rr, ro, bg))).2.2.2.2.2.2))]) := by
  show RR E mX7_fault (d + 5) 0 0 0 [(0, .ref m)] [] [(m, ob 7 [.int (zz ↑np), .ref mP, .ref mW, .int (zz ↑nr), .ref mR, .ref mB, .ref mS, .int (zz ↑ac), .ref mA, .int (zz ↑ke), .ref mK, .int (zz ↑se), .ref mE, .ref mT, .int (zz ↑tl), .int (zz ↑at_), .ref mD, .int (zz ↑rp), .ref nP, .ref nW, .int (zz ↑rr), .ref nR, .ref nB, .ref mN, .ref mO, .ref mQ, .int (zz dp), .ref mX]), (mT, aI E 200 tx), (mD, aI E 4 t), (nP, aI E 21 pg), (nW, aI E 10 wn), (nR, aI E 12 ro), (nB, aI E 7 bg)] (fun v w => v = some (.int (zz (psM tx tl 200 0 t (clrM (rp, pg, wn, rr, ro, bg))).1)) ∧ ∃ (a2 : Nat) (t2 : Nat → Int), nmM t2 ∧ w = [(m, ob 7 [.int (zz ↑np), .ref mP, .ref mW, .int (zz ↑nr), .ref mR, .ref mB, .ref mS, .int (zz ↑ac), .ref mA, .int (zz ↑ke), .ref mK, .int (zz ↑se), .ref mE, .ref mT, .int (zz ↑tl), .int (zz ↑a2), .ref mD, .int (zz (↑((psM tx tl 200 0 t (clrM (rp, pg, wn, rr, ro, bg))).2.1))), .ref nP, .ref nW, .int (zz (↑((psM tx tl 200 0 t (clrM (rp, pg, wn, rr, ro, bg))).2.2.2.2.1))), .ref nR, .ref nB, .ref mN, .ref mO, .ref mQ, .int (zz dp), .ref mX]), (mT, aI E 200 tx), (mD, aI E 4 t2), (nP, aI E 21 ((psM tx tl 200 0 t (clrM (rp, pg, wn, rr, ro, bg))).2.2.1)), (nW, aI E 10 ((psM tx tl 200 0 t (clrM (rp, pg, wn, rr, ro, bg))).2.2.2.1)), (nR, aI E 12 ((psM tx tl 200 0 t (clrM (rp, pg, wn, rr, ro, bg))).2.2.2.2.2.1)), (nB, aI E 7 ((psM tx tl 200 0 t (clrM (rp, pg, wn, rr, ro, bg))).2.2.2.2.2.2))])
  have hlen := htx.1
  have lp : ∀ (f a : Nat) (t1 : Nat → Int) (rp1 rr1 : Nat) (pg1 wn1 ro1 bg1 : Nat → Int), 200 ≤ a + f → a ≤ 200 → nmM t1 → rp1 ≤ 7 → rr1 ≤ 6 → psM tx tl f a t1 (rp1, pg1, wn1, rr1, ro1, bg1) = psM tx tl 200 0 t (clrM (rp, pg, wn, rr, ro, bg)) → RR E mX7_fault (d + 5) 0 0 9 [(0, .ref m)] [] [(m, ob 7 [.int (zz ↑np), .ref mP, .ref mW, .int (zz ↑nr), .ref mR, .ref mB, .ref mS, .int (zz ↑ac), .ref mA, .int (zz ↑ke), .ref mK, .int (zz ↑se), .ref mE, .ref mT, .int (zz ↑tl), .int (zz ↑a), .ref mD, .int (zz ↑rp1), .ref nP, .ref nW, .int (zz ↑rr1), .ref nR, .ref nB, .ref mN, .ref mO, .ref mQ, .int (zz dp), .ref mX]), (mT, aI E 200 tx), (mD, aI E 4 t1), (nP, aI E 21 pg1), (nW, aI E 10 wn1), (nR, aI E 12 ro1), (nB, aI E 7 bg1)] (fun v w => v = some (.int (zz (psM tx tl 200 0 t (clrM (rp, pg, wn, rr, ro, bg))).1)) ∧ ∃ (a2 : Nat) (t2 : Nat → Int), nmM t2 ∧ w = [(m, ob 7 [.int (zz ↑np), .ref mP, .ref mW, .int (zz ↑nr), .ref mR, .ref mB, .ref mS, .int (zz ↑ac), .ref mA, .int (zz ↑ke), .ref mK, .int (zz ↑se), .ref mE, .ref mT, .int (zz ↑tl), .int (zz ↑a2), .ref mD, .int (zz (↑((psM tx tl 200 0 t (clrM (rp, pg, wn, rr, ro, bg))).2.1))), .ref nP, .ref nW, .int (zz (↑((psM tx tl 200 0 t (clrM (rp, pg, wn, rr, ro, bg))).2.2.2.2.1))), .ref nR, .ref nB, .ref mN, .ref mO, .ref mQ, .int (zz dp), .ref mX]), (mT, aI E 200 tx), (mD, aI E 4 t2), (nP, aI E 21 ((psM tx tl 200 0 t (clrM (rp, pg, wn, rr, ro, bg))).2.2.1)), (nW, aI E 10 ((psM tx tl 200 0 t (clrM (rp, pg, wn, rr, ro, bg))).2.2.2.1)), (nR, aI E 12 ((psM tx tl 200 0 t (clrM (rp, pg, wn, rr, ro, bg))).2.2.2.2.2.1)), (nB, aI E 7 ((psM tx tl 200 0 t (clrM (rp, pg, wn, rr, ro, bg))).2.2.2.2.2.2))]) := by
    intro f
    induction f with
    | zero =>
      intro a t1 rp1 rr1 pg1 wn1 ro1 bg1 h1 h2 hn1 hrp hrr h4
      rw [psM] at h4
      refine rr_aload_n 0 dX7_fault_9 rfl ?_
      refine rr_get fX7_98 0 rfl rfl dX7_fault_10 ?_
      refine rr_aload_n 0 dX7_fault_13 rfl ?_
      refine rr_get fX7_95 0 rfl rfl dX7_fault_14 ?_
      refine rr_icmp_ge 37 dX7_fault_17 (by decide) (by omega) (by omega) (fun c_1 => ?_) (fun c_1 => ?_)
      · skip
        refine rr_bipush dX7_fault_37 (by decide) ?_
        exact rr_iret dX7_fault_39 rfl rfl ⟨by rw [← h4], a, t1, hn1, by rw [← h4]⟩
      · skip
        exfalso; omega
    | succ f ih =>
      intro a t1 rp1 rr1 pg1 wn1 ro1 bg1 h1 h2 hn1 hrp hrr h4
      rw [psM] at h4
      refine rr_aload_n 0 dX7_fault_9 rfl ?_
      refine rr_get fX7_98 0 rfl rfl dX7_fault_10 ?_
      refine rr_aload_n 0 dX7_fault_13 rfl ?_
      refine rr_get fX7_95 0 rfl rfl dX7_fault_14 ?_
      refine rr_icmp_ge 37 dX7_fault_17 (by decide) (by omega) (by omega) (fun c_2 => ?_) (fun c_2 => ?_)
      · skip
        refine rr_bipush dX7_fault_37 (by decide) ?_
        exact rr_iret dX7_fault_39 rfl rfl ⟨by rw [← h4, if_neg (by omega)], a, t1, hn1, by rw [← h4, if_neg (by omega)]⟩
      · skip
        refine rr_aload_n 0 dX7_fault_20 rfl ?_
        refine rr_get fX7_98 0 rfl rfl dX7_fault_21 ?_
        refine rr_istore_n (lv2 := [(0, .ref m), (1, .int (zz ↑a))]) dX7_fault_24 (by decide) rfl ?_
        refine rr_aload_n 0 dX7_fault_25 rfl ?_
        rw [if_pos (by omega)] at h4
        refine rr_call (wr := []) (call_V (q0 := 0) kX7_131 (c_MreadItem E (d + 0) m mP mW mR mB mS mA mK mE mT mD nP nW nR nB mN mO mQ mX np nr ac ke se tl a rp1 rr1 dp tx t1 pg1 wn1 ro1 bg1 htx (by omega) hn1 hrp hrr) rfl rfl rfl rfl (by omega) (by decide) (Nat.le_of_ble_eq_true rfl) (Nat.le_of_ble_eq_true rfl) dX7_fault_26) [0, 1, 2, 3, 4, 5, 6] [] rfl rfl rfl rfl rfl (Nat.zero_le _) (Nat.zero_le _) (fun v w1 hp => ?_)
        cases hit : itM tx tl a t1 (rp1, pg1, wn1, rr1, ro1, bg1) with
        | none =>
          rw [hit] at hp h4
          obtain ⟨rfl, a2, t2, hn2, rfl⟩ := hp
          refine RR.eq (st2 := [.int (zz 0)]) (ws2 := [(m, ob 7 [.int (zz ↑np), .ref mP, .ref mW, .int (zz ↑nr), .ref mR, .ref mB, .ref mS, .int (zz ↑ac), .ref mA, .int (zz ↑ke), .ref mK, .int (zz ↑se), .ref mE, .ref mT, .int (zz ↑tl), .int (zz ↑a2), .ref mD, .int (zz ↑rp1), .ref nP, .ref nW, .int (zz ↑rr1), .ref nR, .ref nB, .ref mN, .ref mO, .ref mQ, .int (zz dp), .ref mX]), (mT, aI E 200 tx), (mD, aI E 4 t2), (nP, aI E 21 pg1), (nW, aI E 10 wn1), (nR, aI E 12 ro1), (nB, aI E 7 bg1)]) rfl rfl rfl rfl ?_
          refine rr_if_ne 34 dX7_fault_29 (by decide) (by omega) (fun c_3 => ?_) (fun c_3 => ?_)
          · skip
            exfalso; omega
          · skip
            refine rr_iload_n 1 dX7_fault_32 rfl ?_
            exact rr_iret dX7_fault_33 rfl rfl ⟨by rw [← h4], a2, t2, hn2, by rw [← h4]⟩
        | some x =>
          rw [hit] at hp h4
          have hs := itM_some hit hrp hrr
          obtain ⟨⟨rp2, pg2, wn2, rr2, ro2, bg2⟩, a2, t2⟩ := x
          obtain ⟨rfl, hn2, rfl⟩ := hp
          dsimp only at hs h4 hn2
          refine RR.eq (st2 := [.int (zz 1)]) (ws2 := [(m, ob 7 [.int (zz ↑np), .ref mP, .ref mW, .int (zz ↑nr), .ref mR, .ref mB, .ref mS, .int (zz ↑ac), .ref mA, .int (zz ↑ke), .ref mK, .int (zz ↑se), .ref mE, .ref mT, .int (zz ↑tl), .int (zz ↑a2), .ref mD, .int (zz ↑rp2), .ref nP, .ref nW, .int (zz ↑rr2), .ref nR, .ref nB, .ref mN, .ref mO, .ref mQ, .int (zz dp), .ref mX]), (mT, aI E 200 tx), (mD, aI E 4 t2), (nP, aI E 21 pg2), (nW, aI E 10 wn2), (nR, aI E 12 ro2), (nB, aI E 7 bg2)]) rfl rfl rfl rfl ?_
          refine rr_if_ne 34 dX7_fault_29 (by decide) (by omega) (fun c_4 => ?_) (fun c_4 => ?_)
          · skip
            refine rr_goto 9 dX7_fault_34 (by decide) ?_
            refine RR.lv [0] rfl ?_
            exact ih a2 t2 rp2 rr2 pg2 wn2 ro2 bg2 (by omega) (by omega) hn2 hs.1 hs.2.1 h4
          · skip
            exfalso; omega
  refine rr_aload_n 0 dX7_fault_0 rfl ?_
  refine rr_iconst dX7_fault_1 ?_
  refine rr_put (ws2 := [(m, ob 7 [.int (zz ↑np), .ref mP, .ref mW, .int (zz ↑nr), .ref mR, .ref mB, .ref mS, .int (zz ↑ac), .ref mA, .int (zz ↑ke), .ref mK, .int (zz ↑se), .ref mE, .ref mT, .int (zz ↑tl), .int (zz 0), .ref mD, .int (zz ↑rp), .ref nP, .ref nW, .int (zz ↑rr), .ref nR, .ref nB, .ref mN, .ref mO, .ref mQ, .int (zz dp), .ref mX]), (mT, aI E 200 tx), (mD, aI E 4 t), (nP, aI E 21 pg), (nW, aI E 10 wn), (nR, aI E 12 ro), (nB, aI E 7 bg)]) fX7_98 0 rfl rfl rfl (Nat.le_of_ble_eq_true rfl) rfl dX7_fault_2 ?_
  refine rr_aload_n 0 dX7_fault_5 rfl ?_
  refine rr_callFv (ws2 := [(m, ob 7 [.int (zz ↑np), .ref mP, .ref mW, .int (zz ↑nr), .ref mR, .ref mB, .ref mS, .int (zz ↑ac), .ref mA, .int (zz ↑ke), .ref mK, .int (zz ↑se), .ref mE, .ref mT, .int (zz ↑tl), .int (zz 0), .ref mD, .int (zz 0), .ref nP, .ref nW, .int (zz 0), .ref nR, .ref nB, .ref mN, .ref mO, .ref mQ, .int (zz dp), .ref mX]), (mT, aI E 200 tx), (mD, aI E 4 t), (nP, aI E 21 pg), (nW, aI E 10 (fillI wn 10 4)), (nR, aI E 12 ro), (nB, aI E 7 (updI (updI (updI (updI (updI (updI (updI bg 0 5) 1 5) 2 3) 3 0) 4 0) 5 1) 6 (-1)))]) (wr := [(mT, aI E 200 tx), (mD, aI E 4 t), (nP, aI E 21 pg), (nR, aI E 12 ro)]) (call_V (q0 := 0) kX7_64 (c_clearTold E (d + 4) m mP mW mR mB mS mA mK mE mT mD nP nW nR nB mN mO mQ mX np nr ac ke se tl 0 rp rr dp wn bg) rfl rfl rfl rfl (by omega) (by decide) (Nat.le_of_ble_eq_true rfl) (Nat.le_of_ble_eq_true rfl) dX7_fault_6) [0, 4, 6] [1, 2, 3, 5] [4, 0, 1, 2, 5, 3, 6] rfl rfl rfl rfl rfl rfl rfl ?_
  exact lp 200 0 t 0 0 pg (fillI wn 10 4) ro (updI (updI (updI (updI (updI (updI (updI bg 0 5) 1 5) 2 3) 3 0) 4 0) 5 1) 6 (-1)) (by omega) (by omega) hnm (by omega) (by omega) rfl
