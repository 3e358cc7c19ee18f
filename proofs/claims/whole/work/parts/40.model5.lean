set_option maxRecDepth 100000 in
set_option maxHeartbeats 400000 in
theorem c_keepsRow (E : Ev) (d : Nat) (m mP mW mR mB mS mA mK mE mT mD nP nW nR nB mN mO mQ mX : Nat) (np nr ac ke se tl at_ rp rr : Nat) (dp : Int) (nw rs : Nat → Int) (k : Nat) (hk : k ≤ 6) (hd : dp = (k : Int)) : SP E mX7_keepsRow (d + 1) 0 0 [.ref m] [(m, ob 7 [.int (zz ↑np), .ref mP, .ref mW, .int (zz ↑nr), .ref mR, .ref mB, .ref mS, .int (zz ↑ac), .ref mA, .int (zz ↑ke), .ref mK, .int (zz ↑se), .ref mE, .ref mT, .int (zz ↑tl), .int (zz ↑at_), .ref mD, .int (zz ↑rp), .ref nP, .ref nW, .int (zz ↑rr), .ref nR, .ref nB, .ref mN, .ref mO, .ref mQ, .int (zz dp), .ref mX]), (mN, aI E 7 nw), (mQ, aI E 49 rs)] (FP none [(m, ob 7 [.int (zz ↑np), .ref mP, .ref mW, .int (zz ↑nr), .ref mR, .ref mB, .ref mS, .int (zz ↑ac), .ref mA, .int (zz ↑ke), .ref mK, .int (zz ↑se), .ref mE, .ref mT, .int (zz ↑tl), .int (zz ↑at_), .ref mD, .int (zz ↑rp), .ref nP, .ref nW, .int (zz ↑rr), .ref nR, .ref nB, .ref mN, .ref mO, .ref mQ, .int (zz dp), .ref mX]), (mN, aI E 7 nw), (mQ, aI E 49 (cpI rs (7 * k) nw 0 7))]) := by
  show RR E mX7_keepsRow (d + 1) 0 0 0 [(0, .ref m)] [] [(m, ob 7 [.int (zz ↑np), .ref mP, .ref mW, .int (zz ↑nr), .ref mR, .ref mB, .ref mS, .int (zz ↑ac), .ref mA, .int (zz ↑ke), .ref mK, .int (zz ↑se), .ref mE, .ref mT, .int (zz ↑tl), .int (zz ↑at_), .ref mD, .int (zz ↑rp), .ref nP, .ref nW, .int (zz ↑rr), .ref nR, .ref nB, .ref mN, .ref mO, .ref mQ, .int (zz dp), .ref mX]), (mN, aI E 7 nw), (mQ, aI E 49 rs)] (FP none [(m, ob 7 [.int (zz ↑np), .ref mP, .ref mW, .int (zz ↑nr), .ref mR, .ref mB, .ref mS, .int (zz ↑ac), .ref mA, .int (zz ↑ke), .ref mK, .int (zz ↑se), .ref mE, .ref mT, .int (zz ↑tl), .int (zz ↑at_), .ref mD, .int (zz ↑rp), .ref nP, .ref nW, .int (zz ↑rr), .ref nR, .ref nB, .ref mN, .ref mO, .ref mQ, .int (zz dp), .ref mX]), (mN, aI E 7 nw), (mQ, aI E 49 (cpI rs (7 * k) nw 0 7))])
  refine rr_aload_n 0 dX7_keepsRow_0 rfl ?_
  refine rr_get fX7_58 0 rfl rfl dX7_keepsRow_1 ?_
  refine rr_bipush dX7_keepsRow_4 (by decide) ?_
  refine rr_aload_n 0 dX7_keepsRow_6 rfl ?_
  refine rr_get fX7_199 0 rfl rfl dX7_keepsRow_7 ?_
  refine rr_imul dX7_keepsRow_10 ?_
  refine rr_top (b := ↑(7 * k)) (by omega) ?_
  refine rr_aload_n 0 dX7_keepsRow_11 rfl ?_
  refine rr_get fX7_52 0 rfl rfl dX7_keepsRow_12 ?_
  refine rr_iconst dX7_keepsRow_15 ?_
  refine rr_bipush dX7_keepsRow_16 (by decide) ?_
  refine rr_callFv (ws2 := [(m, ob 7 [.int (zz ↑np), .ref mP, .ref mW, .int (zz ↑nr), .ref mR, .ref mB, .ref mS, .int (zz ↑ac), .ref mA, .int (zz ↑ke), .ref mK, .int (zz ↑se), .ref mE, .ref mT, .int (zz ↑tl), .int (zz ↑at_), .ref mD, .int (zz ↑rp), .ref nP, .ref nW, .int (zz ↑rr), .ref nR, .ref nB, .ref mN, .ref mO, .ref mQ, .int (zz dp), .ref mX]), (mN, aI E 7 nw), (mQ, aI E 49 (cpI rs (7 * k) nw 0 7))]) (wr := [(m, ob 7 [.int (zz ↑np), .ref mP, .ref mW, .int (zz ↑nr), .ref mR, .ref mB, .ref mS, .int (zz ↑ac), .ref mA, .int (zz ↑ke), .ref mK, .int (zz ↑se), .ref mE, .ref mT, .int (zz ↑tl), .int (zz ↑at_), .ref mD, .int (zz ↑rp), .ref nP, .ref nW, .int (zz ↑rr), .ref nR, .ref nB, .ref mN, .ref mO, .ref mQ, .int (zz dp), .ref mX])]) (call_S kX7_138 (c_copies E (d + 0) mQ mN 49 7 (7 * k) 0 7 rs nw (by omega) (by omega) (by omega) (by omega)) rfl (by omega) (by decide) (Nat.le_of_ble_eq_true rfl) (Nat.le_of_ble_eq_true rfl) dX7_keepsRow_18) [2, 1] [0] [0, 2, 1] rfl rfl rfl rfl rfl rfl rfl ?_
  exact rr_ret dX7_keepsRow_21 rfl ⟨rfl, rfl⟩
set_option maxRecDepth 100000 in
set_option maxHeartbeats 400000 in
theorem c_beginsRows (E : Ev) (d : Nat) (m mP mW mR mB mS mA mK mE mT mD nP nW nR nB mN mO mQ mX : Nat) (np nr ac ke se tl at_ rp rr : Nat) (dp : Int) (pg wn ro nw st kd lf qt wd rx ry h : Nat → Int) (hP : PL np kd lf qt wd pg wn) (hpc : pOK np kd lf qt wd) (hRo : RoL nr rx ry ro) (hrc : rOK nr rx ry) (hA : AG 7 st (amF h)) (ho : hOK h) (hv : hV np h) (rw rs : Nat → Int) : SP E mX7_beginsRows (d + 2) 0 0 [.ref m] [(m, ob 7 [.int (zz ↑np), .ref mP, .ref mW, .int (zz ↑nr), .ref mR, .ref mB, .ref mS, .int (zz ↑ac), .ref mA, .int (zz ↑ke), .ref mK, .int (zz ↑se), .ref mE, .ref mT, .int (zz ↑tl), .int (zz ↑at_), .ref mD, .int (zz ↑rp), .ref nP, .ref nW, .int (zz ↑rr), .ref nR, .ref nB, .ref mN, .ref mO, .ref mQ, .int (zz dp), .ref mX]), (mN, aI E 7 nw), (mS, aI E 7 st), (mO, aI E 7 rw), (mQ, aI E 49 rs)] (fun v w1 => v = none ∧ ∃ nw2 rw2 rs2 : Nat → Int, STK rs2 rw2 [(h, 0)] ∧ w1 = [(m, ob 7 [.int (zz ↑np), .ref mP, .ref mW, .int (zz ↑nr), .ref mR, .ref mB, .ref mS, .int (zz ↑ac), .ref mA, .int (zz ↑ke), .ref mK, .int (zz ↑se), .ref mE, .ref mT, .int (zz ↑tl), .int (zz ↑at_), .ref mD, .int (zz ↑rp), .ref nP, .ref nW, .int (zz ↑rr), .ref nR, .ref nB, .ref mN, .ref mO, .ref mQ, .int (zz 0), .ref mX]), (mN, aI E 7 nw2), (mS, aI E 7 st), (mO, aI E 7 rw2), (mQ, aI E 49 rs2)]) := by
  show RR E mX7_beginsRows (d + 2) 0 0 0 [(0, .ref m)] [] [(m, ob 7 [.int (zz ↑np), .ref mP, .ref mW, .int (zz ↑nr), .ref mR, .ref mB, .ref mS, .int (zz ↑ac), .ref mA, .int (zz ↑ke), .ref mK, .int (zz ↑se), .ref mE, .ref mT, .int (zz ↑tl), .int (zz ↑at_), .ref mD, .int (zz ↑rp), .ref nP, .ref nW, .int (zz ↑rr), .ref nR, .ref nB, .ref mN, .ref mO, .ref mQ, .int (zz dp), .ref mX]), (mN, aI E 7 nw), (mS, aI E 7 st), (mO, aI E 7 rw), (mQ, aI E 49 rs)] (fun v w1 => v = none ∧ ∃ nw2 rw2 rs2 : Nat → Int, STK rs2 rw2 [(h, 0)] ∧ w1 = [(m, ob 7 [.int (zz ↑np), .ref mP, .ref mW, .int (zz ↑nr), .ref mR, .ref mB, .ref mS, .int (zz ↑ac), .ref mA, .int (zz ↑ke), .ref mK, .int (zz ↑se), .ref mE, .ref mT, .int (zz ↑tl), .int (zz ↑at_), .ref mD, .int (zz ↑rp), .ref nP, .ref nW, .int (zz ↑rr), .ref nR, .ref nB, .ref mN, .ref mO, .ref mQ, .int (zz 0), .ref mX]), (mN, aI E 7 nw2), (mS, aI E 7 st), (mO, aI E 7 rw2), (mQ, aI E 49 rs2)])
  have hp := hP.ok hpc
  have hr := hRo.ok hrc
  have hn := hpc.1
  have hr1 := hrc.1
  have hs := hA.ok ho hv
  obtain ⟨o0, o1, o2, o3, o5, o6⟩ := id ho
  obtain ⟨e0, e1, e2, e3, e4, e5, e6⟩ := hA.all
  refine rr_aload_n 0 dX7_beginsRows_0 rfl ?_
  refine rr_iconst dX7_beginsRows_1 ?_
  refine rr_put (ws2 := [(m, ob 7 [.int (zz ↑np), .ref mP, .ref mW, .int (zz ↑nr), .ref mR, .ref mB, .ref mS, .int (zz ↑ac), .ref mA, .int (zz ↑ke), .ref mK, .int (zz ↑se), .ref mE, .ref mT, .int (zz ↑tl), .int (zz ↑at_), .ref mD, .int (zz ↑rp), .ref nP, .ref nW, .int (zz ↑rr), .ref nR, .ref nB, .ref mN, .ref mO, .ref mQ, .int (zz 0), .ref mX]), (mN, aI E 7 nw), (mS, aI E 7 st), (mO, aI E 7 rw), (mQ, aI E 49 rs)]) fX7_199 0 rfl rfl rfl (Nat.le_of_ble_eq_true rfl) rfl dX7_beginsRows_2 ?_
  refine rr_aload_n 0 dX7_beginsRows_5 rfl ?_
  refine rr_aload_n 0 dX7_beginsRows_6 rfl ?_
  refine rr_get fX7_22 0 rfl rfl dX7_beginsRows_7 ?_
  have ke_1 : cpI nw 0 st 0 7 0 = st 0 := rfl
  have ke_2 : cpI nw 0 st 0 7 1 = st 1 := rfl
  have ke_3 : cpI nw 0 st 0 7 2 = st 2 := rfl
  have ke_4 : cpI nw 0 st 0 7 3 = st 3 := rfl
  have ke_5 : cpI nw 0 st 0 7 4 = st 4 := rfl
  have ke_6 : cpI nw 0 st 0 7 5 = st 5 := rfl
  have ke_7 : cpI nw 0 st 0 7 6 = st 6 := rfl
  have hA8 : AG 7 (cpI nw 0 st 0 7) (amF h) := cp7 hA
  have ho8 : hOK h := ho
  have hv8 : hV np h := hv
  have hm8 : mOK np (cpI nw 0 st 0 7) := hA8.ok ho8 hv8
  obtain ⟨ea8, eb8, ec8, ed8, ee8, ef8, eg8⟩ := hA8.all
  obtain ⟨na8, nb8, nc8, nd8, nf8, ng8⟩ := id hm8
  refine rr_callFv (ws2 := [(m, ob 7 [.int (zz ↑np), .ref mP, .ref mW, .int (zz ↑nr), .ref mR, .ref mB, .ref mS, .int (zz ↑ac), .ref mA, .int (zz ↑ke), .ref mK, .int (zz ↑se), .ref mE, .ref mT, .int (zz ↑tl), .int (zz ↑at_), .ref mD, .int (zz ↑rp), .ref nP, .ref nW, .int (zz ↑rr), .ref nR, .ref nB, .ref mN, .ref mO, .ref mQ, .int (zz 0), .ref mX]), (mN, aI E 7 (cpI nw 0 st 0 7)), (mS, aI E 7 st), (mO, aI E 7 rw), (mQ, aI E 49 rs)]) (wr := [(mO, aI E 7 rw), (mQ, aI E 49 rs)]) (call_V (q0 := 0) kX7_180 (c_from E (d + 0) m mP mW mR mB mS mA mK mE mT mD nP nW nR nB mN mO mQ mX np nr ac ke se tl at_ rp rr 0 mS nw st) rfl rfl rfl rfl (by omega) (by decide) (Nat.le_of_ble_eq_true rfl) (Nat.le_of_ble_eq_true rfl) dX7_beginsRows_10) [0, 1, 2] [3, 4] [2, 3, 4, 0, 1] rfl rfl rfl rfl rfl rfl rfl ?_
  refine rr_aload_n 0 dX7_beginsRows_13 rfl ?_
  refine rr_callFv (ws2 := [(m, ob 7 [.int (zz ↑np), .ref mP, .ref mW, .int (zz ↑nr), .ref mR, .ref mB, .ref mS, .int (zz ↑ac), .ref mA, .int (zz ↑ke), .ref mK, .int (zz ↑se), .ref mE, .ref mT, .int (zz ↑tl), .int (zz ↑at_), .ref mD, .int (zz ↑rp), .ref nP, .ref nW, .int (zz ↑rr), .ref nR, .ref nB, .ref mN, .ref mO, .ref mQ, .int (zz 0), .ref mX]), (mN, aI E 7 (cpI nw 0 st 0 7)), (mS, aI E 7 st), (mO, aI E 7 rw), (mQ, aI E 49 (cpI rs (7 * 0) (cpI nw 0 st 0 7) 0 7))]) (wr := [(mS, aI E 7 st), (mO, aI E 7 rw)]) (call_V (q0 := 0) kX7_202 (c_keepsRow E (d + 0) m mP mW mR mB mS mA mK mE mT mD nP nW nR nB mN mO mQ mX np nr ac ke se tl at_ rp rr 0 (cpI nw 0 st 0 7) rs 0 (by omega) (by omega)) rfl rfl rfl rfl (by omega) (by decide) (Nat.le_of_ble_eq_true rfl) (Nat.le_of_ble_eq_true rfl) dX7_beginsRows_14) [0, 1, 4] [2, 3] [2, 3, 0, 1, 4] rfl rfl rfl rfl rfl rfl rfl ?_
  refine rr_aload_n 0 dX7_beginsRows_17 rfl ?_
  refine rr_get fX7_55 0 rfl rfl dX7_beginsRows_18 ?_
  refine rr_iconst dX7_beginsRows_21 ?_
  refine rr_iconst dX7_beginsRows_22 ?_
  refine rr_iast (ws2 := [(m, ob 7 [.int (zz ↑np), .ref mP, .ref mW, .int (zz ↑nr), .ref mR, .ref mB, .ref mS, .int (zz ↑ac), .ref mA, .int (zz ↑ke), .ref mK, .int (zz ↑se), .ref mE, .ref mT, .int (zz ↑tl), .int (zz ↑at_), .ref mD, .int (zz ↑rp), .ref nP, .ref nW, .int (zz ↑rr), .ref nR, .ref nB, .ref mN, .ref mO, .ref mQ, .int (zz 0), .ref mX]), (mN, aI E 7 (cpI nw 0 st 0 7)), (mS, aI E 7 st), (mO, aI E 7 (updI rw 0 (-1))), (mQ, aI E 49 (cpI rs (7 * 0) (cpI nw 0 st 0 7) 0 7))]) 3 0 rfl rfl (by omega) (by omega) rfl dX7_beginsRows_23 ?_
  exact rr_ret dX7_beginsRows_24 rfl ⟨rfl, cpI nw 0 st 0 7, (updI rw 0 (-1)), cpI rs (7 * 0) (cpI nw 0 st 0 7) 0 7, STK_one (cp7 hA), rfl⟩
set_option maxRecDepth 100000 in
set_option maxHeartbeats 400000 in
theorem c_nextRow (E : Ev) (d : Nat) (m mP mW mR mB mS mA mK mE mT mD nP nW nR nB mN mO mQ mX : Nat) (np nr ac ke se tl at_ rp rr : Nat) (pg wn nw kd lf qt wd : Nat → Int) (hP : PL np kd lf qt wd pg wn) (hpc : pOK np kd lf qt wd) (rw rs : Nat → Int) (sk : Sk) (n : Nat) (hn6 : n ≤ 6) (hS : STK rs rw sk) (hO : SOK np sk) (hL : sk.length ≤ n + 1) : SP E mX7_nextRow (d + 4) 0 0 [.ref m, .int (zz ↑n)] [(m, ob 7 [.int (zz ↑np), .ref mP, .ref mW, .int (zz ↑nr), .ref mR, .ref mB, .ref mS, .int (zz ↑ac), .ref mA, .int (zz ↑ke), .ref mK, .int (zz ↑se), .ref mE, .ref mT, .int (zz ↑tl), .int (zz ↑at_), .ref mD, .int (zz ↑rp), .ref nP, .ref nW, .int (zz ↑rr), .ref nR, .ref nB, .ref mN, .ref mO, .ref mQ, .int (zz ((sk.length : Int) - 1)), .ref mX]), (mP, aI E 21 pg), (mW, aI E 10 wn), (mN, aI E 7 nw), (mO, aI E 7 rw), (mQ, aI E 49 rs)] (oPost (nxR (tnF np kd lf qt wd) np n sk) (fun sk2 w1 => ∃ (s : Hs) (c : Nat) (rest : Sk) (nw2 rw2 rs2 : Nat → Int), sk2 = (s, c) :: rest ∧ AG 7 nw2 (amF s) ∧ STK rs2 rw2 sk2 ∧ w1 = [(m, ob 7 [.int (zz ↑np), .ref mP, .ref mW, .int (zz ↑nr), .ref mR, .ref mB, .ref mS, .int (zz ↑ac), .ref mA, .int (zz ↑ke), .ref mK, .int (zz ↑se), .ref mE, .ref mT, .int (zz ↑tl), .int (zz ↑at_), .ref mD, .int (zz ↑rp), .ref nP, .ref nW, .int (zz ↑rr), .ref nR, .ref nB, .ref mN, .ref mO, .ref mQ, .int (zz (rest.length : Int)), .ref mX]), (mP, aI E 21 pg), (mW, aI E 10 wn), (mN, aI E 7 nw2), (mO, aI E 7 rw2), (mQ, aI E 49 rs2)]) (fun w1 => ∃ nw2 : Nat → Int, w1 = [(m, ob 7 [.int (zz ↑np), .ref mP, .ref mW, .int (zz ↑nr), .ref mR, .ref mB, .ref mS, .int (zz ↑ac), .ref mA, .int (zz ↑ke), .ref mK, .int (zz ↑se), .ref mE, .ref mT, .int (zz ↑tl), .int (zz ↑at_), .ref mD, .int (zz ↑rp), .ref nP, .ref nW, .int (zz ↑rr), .ref nR, .ref nB, .ref mN, .ref mO, .ref mQ, .int (zz (-1)), .ref mX]), (mP, aI E 21 pg), (mW, aI E 10 wn), (mN, aI E 7 nw2), (mO, aI E 7 rw), (mQ, aI E 49 rs)])) := by
  show RR E mX7_nextRow (d + 4) 0 0 0 [(0, .ref m), (1, .int (zz ↑n))] [] [(m, ob 7 [.int (zz ↑np), .ref mP, .ref mW, .int (zz ↑nr), .ref mR, .ref mB, .ref mS, .int (zz ↑ac), .ref mA, .int (zz ↑ke), .ref mK, .int (zz ↑se), .ref mE, .ref mT, .int (zz ↑tl), .int (zz ↑at_), .ref mD, .int (zz ↑rp), .ref nP, .ref nW, .int (zz ↑rr), .ref nR, .ref nB, .ref mN, .ref mO, .ref mQ, .int (zz ((sk.length : Int) - 1)), .ref mX]), (mP, aI E 21 pg), (mW, aI E 10 wn), (mN, aI E 7 nw), (mO, aI E 7 rw), (mQ, aI E 49 rs)] (oPost (nxR (tnF np kd lf qt wd) np n sk) (fun sk2 w1 => ∃ (s : Hs) (c : Nat) (rest : Sk) (nw2 rw2 rs2 : Nat → Int), sk2 = (s, c) :: rest ∧ AG 7 nw2 (amF s) ∧ STK rs2 rw2 sk2 ∧ w1 = [(m, ob 7 [.int (zz ↑np), .ref mP, .ref mW, .int (zz ↑nr), .ref mR, .ref mB, .ref mS, .int (zz ↑ac), .ref mA, .int (zz ↑ke), .ref mK, .int (zz ↑se), .ref mE, .ref mT, .int (zz ↑tl), .int (zz ↑at_), .ref mD, .int (zz ↑rp), .ref nP, .ref nW, .int (zz ↑rr), .ref nR, .ref nB, .ref mN, .ref mO, .ref mQ, .int (zz (rest.length : Int)), .ref mX]), (mP, aI E 21 pg), (mW, aI E 10 wn), (mN, aI E 7 nw2), (mO, aI E 7 rw2), (mQ, aI E 49 rs2)]) (fun w1 => ∃ nw2 : Nat → Int, w1 = [(m, ob 7 [.int (zz ↑np), .ref mP, .ref mW, .int (zz ↑nr), .ref mR, .ref mB, .ref mS, .int (zz ↑ac), .ref mA, .int (zz ↑ke), .ref mK, .int (zz ↑se), .ref mE, .ref mT, .int (zz ↑tl), .int (zz ↑at_), .ref mD, .int (zz ↑rp), .ref nP, .ref nW, .int (zz ↑rr), .ref nR, .ref nB, .ref mN, .ref mO, .ref mQ, .int (zz (-1)), .ref mX]), (mP, aI E 21 pg), (mW, aI E 10 wn), (mN, aI E 7 nw2), (mO, aI E 7 rw), (mQ, aI E 49 rs)]))
  have hp := hP.ok hpc
  have hn := hpc.1
  have lp : ∀ (sk1 : Sk) (nw1 : Nat → Int), STK rs rw sk1 → SOK np sk1 → sk1.length ≤ n + 1 → nxR (tnF np kd lf qt wd) np n sk = nxR (tnF np kd lf qt wd) np n sk1 → RR E mX7_nextRow (d + 4) 0 0 0 [(0, .ref m), (1, .int (zz ↑n))] [] [(m, ob 7 [.int (zz ↑np), .ref mP, .ref mW, .int (zz ↑nr), .ref mR, .ref mB, .ref mS, .int (zz ↑ac), .ref mA, .int (zz ↑ke), .ref mK, .int (zz ↑se), .ref mE, .ref mT, .int (zz ↑tl), .int (zz ↑at_), .ref mD, .int (zz ↑rp), .ref nP, .ref nW, .int (zz ↑rr), .ref nR, .ref nB, .ref mN, .ref mO, .ref mQ, .int (zz ((sk1.length : Int) - 1)), .ref mX]), (mP, aI E 21 pg), (mW, aI E 10 wn), (mN, aI E 7 nw1), (mO, aI E 7 rw), (mQ, aI E 49 rs)] (oPost (nxR (tnF np kd lf qt wd) np n sk) (fun sk2 w1 => ∃ (s : Hs) (c : Nat) (rest : Sk) (nw2 rw2 rs2 : Nat → Int), sk2 = (s, c) :: rest ∧ AG 7 nw2 (amF s) ∧ STK rs2 rw2 sk2 ∧ w1 = [(m, ob 7 [.int (zz ↑np), .ref mP, .ref mW, .int (zz ↑nr), .ref mR, .ref mB, .ref mS, .int (zz ↑ac), .ref mA, .int (zz ↑ke), .ref mK, .int (zz ↑se), .ref mE, .ref mT, .int (zz ↑tl), .int (zz ↑at_), .ref mD, .int (zz ↑rp), .ref nP, .ref nW, .int (zz ↑rr), .ref nR, .ref nB, .ref mN, .ref mO, .ref mQ, .int (zz (rest.length : Int)), .ref mX]), (mP, aI E 21 pg), (mW, aI E 10 wn), (mN, aI E 7 nw2), (mO, aI E 7 rw2), (mQ, aI E 49 rs2)]) (fun w1 => ∃ nw2 : Nat → Int, w1 = [(m, ob 7 [.int (zz ↑np), .ref mP, .ref mW, .int (zz ↑nr), .ref mR, .ref mB, .ref mS, .int (zz ↑ac), .ref mA, .int (zz ↑ke), .ref mK, .int (zz ↑se), .ref mE, .ref mT, .int (zz ↑tl), .int (zz ↑at_), .ref mD, .int (zz ↑rp), .ref nP, .ref nW, .int (zz ↑rr), .ref nR, .ref nB, .ref mN, .ref mO, .ref mQ, .int (zz (-1)), .ref mX]), (mP, aI E 21 pg), (mW, aI E 10 wn), (mN, aI E 7 nw2), (mO, aI E 7 rw), (mQ, aI E 49 rs)])) := by
    intro sk1
    induction sk1 with
    | nil =>
      intro nw1 hS hO hL h4
      refine RR.eq (ws2 := [(m, ob 7 [.int (zz ↑np), .ref mP, .ref mW, .int (zz ↑nr), .ref mR, .ref mB, .ref mS, .int (zz ↑ac), .ref mA, .int (zz ↑ke), .ref mK, .int (zz ↑se), .ref mE, .ref mT, .int (zz ↑tl), .int (zz ↑at_), .ref mD, .int (zz ↑rp), .ref nP, .ref nW, .int (zz ↑rr), .ref nR, .ref nB, .ref mN, .ref mO, .ref mQ, .int (zz (-1)), .ref mX]), (mP, aI E 21 pg), (mW, aI E 10 wn), (mN, aI E 7 nw1), (mO, aI E 7 rw), (mQ, aI E 49 rs)]) rfl rfl rfl rfl ?_
      refine rr_aload_n 0 dX7_nextRow_0 rfl ?_
      refine rr_get fX7_199 0 rfl rfl dX7_nextRow_1 ?_
      refine rr_if_lt 126 dX7_nextRow_4 (by decide) (by omega) (fun c_1 => ?_) (fun c_1 => ?_)
      · skip
        refine rr_iconst dX7_nextRow_126 ?_
        exact rr_iret dX7_nextRow_127 rfl rfl (oPost_none h4 ⟨nw1, rfl⟩)
      · skip
        exfalso; omega
    | cons e rest ih =>
      intro nw1 hS hO hL h4
      obtain ⟨s1, c1⟩ := e
      obtain ⟨q, hq⟩ : ∃ q : Nat, q = rest.length := ⟨_, rfl⟩
      have hLc : (((s1, c1) :: rest : Sk).length : Int) - 1 = (q : Int) := by rw [List.length_cons, hq]; omega
      have hLn : q ≤ n := by rw [List.length_cons] at hL; omega
      have hc1 : c1 ≤ np := (hO (s1, c1) List.mem_cons_self).2.2
      have hrq : rw q = (c1 : Int) - 1 := by rw [hq]; exact hS.2.1
      refine RR.eq (ws2 := [(m, ob 7 [.int (zz ↑np), .ref mP, .ref mW, .int (zz ↑nr), .ref mR, .ref mB, .ref mS, .int (zz ↑ac), .ref mA, .int (zz ↑ke), .ref mK, .int (zz ↑se), .ref mE, .ref mT, .int (zz ↑tl), .int (zz ↑at_), .ref mD, .int (zz ↑rp), .ref nP, .ref nW, .int (zz ↑rr), .ref nR, .ref nB, .ref mN, .ref mO, .ref mQ, .int (zz ↑q), .ref mX]), (mP, aI E 21 pg), (mW, aI E 10 wn), (mN, aI E 7 nw1), (mO, aI E 7 rw), (mQ, aI E 49 rs)]) rfl rfl rfl (by rw [hLc]) ?_
      have hA2 : AG 7 (cpI nw1 0 rs (7 * q) 7) (amF s1) := cp7o (by rw [hq]; exact hS.1)
      have ho2 : hOK s1 := (hO (s1, c1) List.mem_cons_self).1
      have hv2 : hV np s1 := (hO (s1, c1) List.mem_cons_self).2.1
      have hm2 : mOK np (cpI nw1 0 rs (7 * q) 7) := hA2.ok ho2 hv2
      obtain ⟨ea2, eb2, ec2, ed2, ee2, ef2, eg2⟩ := hA2.all
      obtain ⟨na2, nb2, nc2, nd2, nf2, ng2⟩ := id hm2
      refine rr_aload_n 0 dX7_nextRow_0 rfl ?_
      refine rr_get fX7_199 0 rfl rfl dX7_nextRow_1 ?_
      refine rr_if_lt 126 dX7_nextRow_4 (by decide) (by omega) (fun c_3 => ?_) (fun c_3 => ?_)
      · skip
        exfalso; omega
      · skip
        refine rr_aload_n 0 dX7_nextRow_7 rfl ?_
        refine rr_get fX7_52 0 rfl rfl dX7_nextRow_8 ?_
        refine rr_iconst dX7_nextRow_11 ?_
        refine rr_aload_n 0 dX7_nextRow_12 rfl ?_
        refine rr_get fX7_58 0 rfl rfl dX7_nextRow_13 ?_
        refine rr_bipush dX7_nextRow_16 (by decide) ?_
        refine rr_aload_n 0 dX7_nextRow_18 rfl ?_
        refine rr_get fX7_199 0 rfl rfl dX7_nextRow_19 ?_
        refine rr_imul dX7_nextRow_22 ?_
        refine rr_top (b := ↑(7 * q)) (by omega) ?_
        refine rr_bipush dX7_nextRow_23 (by decide) ?_
        refine rr_callFv (ws2 := [(m, ob 7 [.int (zz ↑np), .ref mP, .ref mW, .int (zz ↑nr), .ref mR, .ref mB, .ref mS, .int (zz ↑ac), .ref mA, .int (zz ↑ke), .ref mK, .int (zz ↑se), .ref mE, .ref mT, .int (zz ↑tl), .int (zz ↑at_), .ref mD, .int (zz ↑rp), .ref nP, .ref nW, .int (zz ↑rr), .ref nR, .ref nB, .ref mN, .ref mO, .ref mQ, .int (zz ↑q), .ref mX]), (mP, aI E 21 pg), (mW, aI E 10 wn), (mN, aI E 7 (cpI nw1 0 rs (7 * q) 7)), (mO, aI E 7 rw), (mQ, aI E 49 rs)]) (wr := [(m, ob 7 [.int (zz ↑np), .ref mP, .ref mW, .int (zz ↑nr), .ref mR, .ref mB, .ref mS, .int (zz ↑ac), .ref mA, .int (zz ↑ke), .ref mK, .int (zz ↑se), .ref mE, .ref mT, .int (zz ↑tl), .int (zz ↑at_), .ref mD, .int (zz ↑rp), .ref nP, .ref nW, .int (zz ↑rr), .ref nR, .ref nB, .ref mN, .ref mO, .ref mQ, .int (zz ↑q), .ref mX]), (mP, aI E 21 pg), (mW, aI E 10 wn), (mO, aI E 7 rw)]) (call_S kX7_138 (c_copies E (d + 3) mN mQ 7 49 0 (7 * q) 7 nw1 rs (by omega) (by omega) (by omega) (by omega)) rfl (by omega) (by decide) (Nat.le_of_ble_eq_true rfl) (Nat.le_of_ble_eq_true rfl) dX7_nextRow_25) [3, 5] [0, 1, 2, 4] [0, 1, 2, 4, 3, 5] rfl rfl rfl rfl rfl rfl rfl ?_
        refine rr_aload_n 0 dX7_nextRow_28 rfl ?_
        refine rr_get fX7_199 0 rfl rfl dX7_nextRow_29 ?_
        refine rr_iload_n 1 dX7_nextRow_32 rfl ?_
        refine rr_icmp_ge 113 dX7_nextRow_33 (by decide) (by omega) (by omega) (fun c_4 => ?_) (fun c_4 => ?_)
        · skip
          refine rr_aload_n 0 dX7_nextRow_113 rfl ?_
          refine rr_dup dX7_nextRow_114 rfl ?_
          refine rr_get fX7_199 0 rfl rfl dX7_nextRow_115 ?_
          refine rr_iconst dX7_nextRow_118 ?_
          refine rr_isub dX7_nextRow_119 ?_
          refine rr_put (ws2 := [(m, ob 7 [.int (zz ↑np), .ref mP, .ref mW, .int (zz ↑nr), .ref mR, .ref mB, .ref mS, .int (zz ↑ac), .ref mA, .int (zz ↑ke), .ref mK, .int (zz ↑se), .ref mE, .ref mT, .int (zz ↑tl), .int (zz ↑at_), .ref mD, .int (zz ↑rp), .ref nP, .ref nW, .int (zz ↑rr), .ref nR, .ref nB, .ref mN, .ref mO, .ref mQ, .int (zz (↑q - 1)), .ref mX]), (mP, aI E 21 pg), (mW, aI E 10 wn), (mN, aI E 7 (cpI nw1 0 rs (7 * q) 7)), (mO, aI E 7 rw), (mQ, aI E 49 rs)]) fX7_199 0 rfl rfl rfl (Nat.le_of_ble_eq_true rfl) rfl dX7_nextRow_120 ?_
          refine rr_goto 0 dX7_nextRow_123 (by decide) ?_
          refine RR.eq (ws2 := [(m, ob 7 [.int (zz ↑np), .ref mP, .ref mW, .int (zz ↑nr), .ref mR, .ref mB, .ref mS, .int (zz ↑ac), .ref mA, .int (zz ↑ke), .ref mK, .int (zz ↑se), .ref mE, .ref mT, .int (zz ↑tl), .int (zz ↑at_), .ref mD, .int (zz ↑rp), .ref nP, .ref nW, .int (zz ↑rr), .ref nR, .ref nB, .ref mN, .ref mO, .ref mQ, .int (zz ((rest.length : Int) - 1)), .ref mX]), (mP, aI E 21 pg), (mW, aI E 10 wn), (mN, aI E 7 (cpI nw1 0 rs (7 * q) 7)), (mO, aI E 7 rw), (mQ, aI E 49 rs)]) rfl rfl rfl (by rw [hq]) ?_
          exact ih (cpI nw1 0 rs (7 * q) 7) hS.2.2 (fun x hx => hO x (List.mem_cons_of_mem _ hx)) (by omega) (h4.trans (nxR_n (by omega)))
        · skip
          refine rr_aload_n 0 dX7_nextRow_36 rfl ?_
          refine rr_callFi (ws2 := [(m, ob 7 [.int (zz ↑np), .ref mP, .ref mW, .int (zz ↑nr), .ref mR, .ref mB, .ref mS, .int (zz ↑ac), .ref mA, .int (zz ↑ke), .ref mK, .int (zz ↑se), .ref mE, .ref mT, .int (zz ↑tl), .int (zz ↑at_), .ref mD, .int (zz ↑rp), .ref nP, .ref nW, .int (zz ↑rr), .ref nR, .ref nB, .ref mN, .ref mO, .ref mQ, .int (zz ↑q), .ref mX]), (mP, aI E 21 pg), (mW, aI E 10 wn), (mN, aI E 7 (cpI nw1 0 rs (7 * q) 7)), (mO, aI E 7 rw), (mQ, aI E 49 rs)]) (wr := [(mP, aI E 21 pg), (mW, aI E 10 wn), (mO, aI E 7 rw), (mQ, aI E 49 rs)]) (call_V (q0 := 0) kX7_151 (c_MisDown E (d + 3) m mP mW mR mB mS mA mK mE mT mD nP nW nR nB mN mO mQ mX np nr ac ke se tl at_ rp rr ↑q (cpI nw1 0 rs (7 * q) 7) (by omega)) rfl rfl rfl rfl (by omega) (by decide) (Nat.le_of_ble_eq_true rfl) (Nat.le_of_ble_eq_true rfl) dX7_nextRow_37) [0, 3] [1, 2, 4, 5] [4, 0, 1, 5, 2, 3] rfl rfl rfl rfl rfl rfl rfl ?_
          refine rr_if_neD 113 dX7_nextRow_40 (by decide) (fun c_5 => ?_) (fun c_5 => ?_)
          · skip
            refine rr_aload_n 0 dX7_nextRow_113 rfl ?_
            refine rr_dup dX7_nextRow_114 rfl ?_
            refine rr_get fX7_199 0 rfl rfl dX7_nextRow_115 ?_
            refine rr_iconst dX7_nextRow_118 ?_
            refine rr_isub dX7_nextRow_119 ?_
            refine rr_put (ws2 := [(m, ob 7 [.int (zz ↑np), .ref mP, .ref mW, .int (zz ↑nr), .ref mR, .ref mB, .ref mS, .int (zz ↑ac), .ref mA, .int (zz ↑ke), .ref mK, .int (zz ↑se), .ref mE, .ref mT, .int (zz ↑tl), .int (zz ↑at_), .ref mD, .int (zz ↑rp), .ref nP, .ref nW, .int (zz ↑rr), .ref nR, .ref nB, .ref mN, .ref mO, .ref mQ, .int (zz (↑q - 1)), .ref mX]), (mP, aI E 21 pg), (mW, aI E 10 wn), (mN, aI E 7 (cpI nw1 0 rs (7 * q) 7)), (mO, aI E 7 rw), (mQ, aI E 49 rs)]) fX7_199 0 rfl rfl rfl (Nat.le_of_ble_eq_true rfl) rfl dX7_nextRow_120 ?_
            refine rr_goto 0 dX7_nextRow_123 (by decide) ?_
            refine RR.eq (ws2 := [(m, ob 7 [.int (zz ↑np), .ref mP, .ref mW, .int (zz ↑nr), .ref mR, .ref mB, .ref mS, .int (zz ↑ac), .ref mA, .int (zz ↑ke), .ref mK, .int (zz ↑se), .ref mE, .ref mT, .int (zz ↑tl), .int (zz ↑at_), .ref mD, .int (zz ↑rp), .ref nP, .ref nW, .int (zz ↑rr), .ref nR, .ref nB, .ref mN, .ref mO, .ref mQ, .int (zz ((rest.length : Int) - 1)), .ref mX]), (mP, aI E 21 pg), (mW, aI E 10 wn), (mN, aI E 7 (cpI nw1 0 rs (7 * q) 7)), (mO, aI E 7 rw), (mQ, aI E 49 rs)]) rfl rfl rfl (by rw [hq]) ?_
            exact ih (cpI nw1 0 rs (7 * q) 7) hS.2.2 (fun x hx => hO x (List.mem_cons_of_mem _ hx)) (by omega) (h4.trans (nxR_n (by omega)))
          · skip
            refine rr_aload_n 0 dX7_nextRow_43 rfl ?_
            refine rr_get fX7_55 0 rfl rfl dX7_nextRow_44 ?_
            refine rr_aload_n 0 dX7_nextRow_47 rfl ?_
            refine rr_get fX7_199 0 rfl rfl dX7_nextRow_48 ?_
            refine rr_iald 4 q rfl rfl (by omega) (by omega) dX7_nextRow_51 ?_
            refine rr_aload_n 0 dX7_nextRow_52 rfl ?_
            refine rr_get fX7_85 0 rfl rfl dX7_nextRow_53 ?_
            refine rr_iconst dX7_nextRow_56 ?_
            refine rr_isub dX7_nextRow_57 ?_
            refine rr_icmp_ge 113 dX7_nextRow_58 (by decide) (by omega) (by omega) (fun c_6 => ?_) (fun c_6 => ?_)
            · skip
              refine rr_aload_n 0 dX7_nextRow_113 rfl ?_
              refine rr_dup dX7_nextRow_114 rfl ?_
              refine rr_get fX7_199 0 rfl rfl dX7_nextRow_115 ?_
              refine rr_iconst dX7_nextRow_118 ?_
              refine rr_isub dX7_nextRow_119 ?_
              refine rr_put (ws2 := [(m, ob 7 [.int (zz ↑np), .ref mP, .ref mW, .int (zz ↑nr), .ref mR, .ref mB, .ref mS, .int (zz ↑ac), .ref mA, .int (zz ↑ke), .ref mK, .int (zz ↑se), .ref mE, .ref mT, .int (zz ↑tl), .int (zz ↑at_), .ref mD, .int (zz ↑rp), .ref nP, .ref nW, .int (zz ↑rr), .ref nR, .ref nB, .ref mN, .ref mO, .ref mQ, .int (zz (↑q - 1)), .ref mX]), (mP, aI E 21 pg), (mW, aI E 10 wn), (mN, aI E 7 (cpI nw1 0 rs (7 * q) 7)), (mO, aI E 7 rw), (mQ, aI E 49 rs)]) fX7_199 0 rfl rfl rfl (Nat.le_of_ble_eq_true rfl) rfl dX7_nextRow_120 ?_
              refine rr_goto 0 dX7_nextRow_123 (by decide) ?_
              refine RR.eq (ws2 := [(m, ob 7 [.int (zz ↑np), .ref mP, .ref mW, .int (zz ↑nr), .ref mR, .ref mB, .ref mS, .int (zz ↑ac), .ref mA, .int (zz ↑ke), .ref mK, .int (zz ↑se), .ref mE, .ref mT, .int (zz ↑tl), .int (zz ↑at_), .ref mD, .int (zz ↑rp), .ref nP, .ref nW, .int (zz ↑rr), .ref nR, .ref nB, .ref mN, .ref mO, .ref mQ, .int (zz ((rest.length : Int) - 1)), .ref mX]), (mP, aI E 21 pg), (mW, aI E 10 wn), (mN, aI E 7 (cpI nw1 0 rs (7 * q) 7)), (mO, aI E 7 rw), (mQ, aI E 49 rs)]) rfl rfl rfl (by rw [hq]) ?_
              exact ih (cpI nw1 0 rs (7 * q) 7) hS.2.2 (fun x hx => hO x (List.mem_cons_of_mem _ hx)) (by omega) (h4.trans (nxR_n (by omega)))
            · skip
              refine rr_aload_n 0 dX7_nextRow_61 rfl ?_
              refine rr_get fX7_55 0 rfl rfl dX7_nextRow_62 ?_
              refine rr_aload_n 0 dX7_nextRow_65 rfl ?_
              refine rr_get fX7_199 0 rfl rfl dX7_nextRow_66 ?_
              refine rr_dup2 dX7_nextRow_69 rfl rfl ?_
              refine rr_iald 4 q rfl rfl (by omega) (by omega) dX7_nextRow_70 ?_
              refine rr_iconst dX7_nextRow_71 ?_
              refine rr_iadd dX7_nextRow_72 ?_
              refine rr_iast (ws2 := [(m, ob 7 [.int (zz ↑np), .ref mP, .ref mW, .int (zz ↑nr), .ref mR, .ref mB, .ref mS, .int (zz ↑ac), .ref mA, .int (zz ↑ke), .ref mK, .int (zz ↑se), .ref mE, .ref mT, .int (zz ↑tl), .int (zz ↑at_), .ref mD, .int (zz ↑rp), .ref nP, .ref nW, .int (zz ↑rr), .ref nR, .ref nB, .ref mN, .ref mO, .ref mQ, .int (zz ↑q), .ref mX]), (mP, aI E 21 pg), (mW, aI E 10 wn), (mN, aI E 7 (cpI nw1 0 rs (7 * q) 7)), (mO, aI E 7 (updI rw q ((rw q) + 1))), (mQ, aI E 49 rs)]) 4 q rfl rfl (by omega) (by omega) rfl dX7_nextRow_73 ?_
              refine rr_aload_n 0 dX7_nextRow_74 rfl ?_
              refine rr_aload_n 0 dX7_nextRow_75 rfl ?_
              refine rr_get fX7_55 0 rfl rfl dX7_nextRow_76 ?_
              refine rr_aload_n 0 dX7_nextRow_79 rfl ?_
              refine rr_get fX7_199 0 rfl rfl dX7_nextRow_80 ?_
              refine rr_iald 4 q rfl rfl (by omega) (by omega) dX7_nextRow_83 ?_
              refine rr_top (b := (rw q) + 1) (updI_eq _ _ _) ?_
              refine rr_top (b := ↑c1) (by omega) ?_
              have hA7 : AG 7 (tnM pg wn (cpI nw1 0 rs (7 * q) 7) c1) (amF (tnF np kd lf qt wd s1 c1)) := tn_rel hP hpc hv2 hA2 (by omega)
              have ho7 : hOK (tnF np kd lf qt wd s1 c1) := tnF_ok hpc ho2 (by omega)
              have hv7 : hV np (tnF np kd lf qt wd s1 c1) := tnF_hV (by omega)
              have hm7 : mOK np (tnM pg wn (cpI nw1 0 rs (7 * q) 7) c1) := hA7.ok ho7 hv7
              obtain ⟨ea7, eb7, ec7, ed7, ee7, ef7, eg7⟩ := hA7.all
              obtain ⟨na7, nb7, nc7, nd7, nf7, ng7⟩ := id hm7
              refine rr_callFv (ws2 := [(m, ob 7 [.int (zz ↑np), .ref mP, .ref mW, .int (zz ↑nr), .ref mR, .ref mB, .ref mS, .int (zz ↑ac), .ref mA, .int (zz ↑ke), .ref mK, .int (zz ↑se), .ref mE, .ref mT, .int (zz ↑tl), .int (zz ↑at_), .ref mD, .int (zz ↑rp), .ref nP, .ref nW, .int (zz ↑rr), .ref nR, .ref nB, .ref mN, .ref mO, .ref mQ, .int (zz ↑q), .ref mX]), (mP, aI E 21 pg), (mW, aI E 10 wn), (mN, aI E 7 (tnM pg wn (cpI nw1 0 rs (7 * q) 7) c1)), (mO, aI E 7 (updI rw q ((rw q) + 1))), (mQ, aI E 49 rs)]) (wr := [(mO, aI E 7 (updI rw q ((rw q) + 1))), (mQ, aI E 49 rs)]) (call_V (q0 := 0) kX7_190 (c_turns E (d + 0) m mP mW mR mB mS mA mK mE mT mD nP nW nR nB mN mO mQ mX np nr ac ke se tl at_ rp rr ↑q pg wn (cpI nw1 0 rs (7 * q) 7) c1 hp hm2 (by omega)) rfl rfl rfl rfl (by omega) (by decide) (Nat.le_of_ble_eq_true rfl) (Nat.le_of_ble_eq_true rfl) dX7_nextRow_84) [0, 1, 2, 3] [4, 5] [2, 3, 4, 5, 0, 1] rfl rfl rfl rfl rfl rfl rfl ?_
              refine rr_aload_n 0 dX7_nextRow_87 rfl ?_
              refine rr_dup dX7_nextRow_88 rfl ?_
              refine rr_get fX7_199 0 rfl rfl dX7_nextRow_89 ?_
              refine rr_iconst dX7_nextRow_92 ?_
              refine rr_iadd dX7_nextRow_93 ?_
              refine rr_put (ws2 := [(m, ob 7 [.int (zz ↑np), .ref mP, .ref mW, .int (zz ↑nr), .ref mR, .ref mB, .ref mS, .int (zz ↑ac), .ref mA, .int (zz ↑ke), .ref mK, .int (zz ↑se), .ref mE, .ref mT, .int (zz ↑tl), .int (zz ↑at_), .ref mD, .int (zz ↑rp), .ref nP, .ref nW, .int (zz ↑rr), .ref nR, .ref nB, .ref mN, .ref mO, .ref mQ, .int (zz (↑(q + 1))), .ref mX]), (mP, aI E 21 pg), (mW, aI E 10 wn), (mN, aI E 7 (tnM pg wn (cpI nw1 0 rs (7 * q) 7) c1)), (mO, aI E 7 (updI rw q ((rw q) + 1))), (mQ, aI E 49 rs)]) fX7_199 0 rfl rfl rfl (Nat.le_of_ble_eq_true rfl) rfl dX7_nextRow_94 ?_
              refine rr_aload_n 0 dX7_nextRow_97 rfl ?_
              refine rr_callFv (ws2 := [(m, ob 7 [.int (zz ↑np), .ref mP, .ref mW, .int (zz ↑nr), .ref mR, .ref mB, .ref mS, .int (zz ↑ac), .ref mA, .int (zz ↑ke), .ref mK, .int (zz ↑se), .ref mE, .ref mT, .int (zz ↑tl), .int (zz ↑at_), .ref mD, .int (zz ↑rp), .ref nP, .ref nW, .int (zz ↑rr), .ref nR, .ref nB, .ref mN, .ref mO, .ref mQ, .int (zz (↑(q + 1))), .ref mX]), (mP, aI E 21 pg), (mW, aI E 10 wn), (mN, aI E 7 (tnM pg wn (cpI nw1 0 rs (7 * q) 7) c1)), (mO, aI E 7 (updI rw q ((rw q) + 1))), (mQ, aI E 49 (cpI rs (7 * (q + 1)) (tnM pg wn (cpI nw1 0 rs (7 * q) 7) c1) 0 7))]) (wr := [(mP, aI E 21 pg), (mW, aI E 10 wn), (mO, aI E 7 (updI rw q ((rw q) + 1)))]) (call_V (q0 := 0) kX7_202 (c_keepsRow E (d + 2) m mP mW mR mB mS mA mK mE mT mD nP nW nR nB mN mO mQ mX np nr ac ke se tl at_ rp rr (↑(q + 1)) (tnM pg wn (cpI nw1 0 rs (7 * q) 7) c1) rs (q + 1) (by omega) (by omega)) rfl rfl rfl rfl (by omega) (by decide) (Nat.le_of_ble_eq_true rfl) (Nat.le_of_ble_eq_true rfl) dX7_nextRow_98) [0, 3, 5] [1, 2, 4] [3, 0, 1, 4, 2, 5] rfl rfl rfl rfl rfl rfl rfl ?_
              refine rr_aload_n 0 dX7_nextRow_101 rfl ?_
              refine rr_get fX7_55 0 rfl rfl dX7_nextRow_102 ?_
              refine rr_aload_n 0 dX7_nextRow_105 rfl ?_
              refine rr_get fX7_199 0 rfl rfl dX7_nextRow_106 ?_
              refine rr_iconst dX7_nextRow_109 ?_
              refine rr_iast (ws2 := [(m, ob 7 [.int (zz ↑np), .ref mP, .ref mW, .int (zz ↑nr), .ref mR, .ref mB, .ref mS, .int (zz ↑ac), .ref mA, .int (zz ↑ke), .ref mK, .int (zz ↑se), .ref mE, .ref mT, .int (zz ↑tl), .int (zz ↑at_), .ref mD, .int (zz ↑rp), .ref nP, .ref nW, .int (zz ↑rr), .ref nR, .ref nB, .ref mN, .ref mO, .ref mQ, .int (zz (↑(q + 1))), .ref mX]), (mP, aI E 21 pg), (mW, aI E 10 wn), (mN, aI E 7 (tnM pg wn (cpI nw1 0 rs (7 * q) 7) c1)), (mO, aI E 7 (updI (updI rw q ((rw q) + 1)) (q + 1) (-1))), (mQ, aI E 49 (cpI rs (7 * (q + 1)) (tnM pg wn (cpI nw1 0 rs (7 * q) 7) c1) 0 7))]) 4 (q + 1) rfl rfl (by omega) (by omega) rfl dX7_nextRow_110 ?_
              refine rr_iconst dX7_nextRow_111 ?_
              exact rr_iret dX7_nextRow_112 rfl rfl (oPost_some (h4.trans (nxR_y (by omega))) ⟨_, _, _, _, _, _, rfl, hA7, STK_push hS hq hA7, by rw [List.length_cons, ← hq]⟩)
  exact lp sk nw hS hO hL rfl
set_option maxRecDepth 100000 in
set_option maxHeartbeats 400000 in
theorem c_wayTo (E : Ev) (d : Nat) (m mP mW mR mB mS mA mK mE mT mD nP nW nR nB mN mO mQ mX : Nat) (np nr ac ke se tl at_ rp rr : Nat) (dp : Int) (pg wn ro nw st kd lf qt wd rx ry h : Nat → Int) (hP : PL np kd lf qt wd pg wn) (hpc : pOK np kd lf qt wd) (hRo : RoL nr rx ry ro) (hrc : rOK nr rx ry) (hA : AG 7 st (amF h)) (ho : hOK h) (hv : hV np h) (rw rs : Nat → Int) (r nn : Nat) (hi : r < nr) (hnn : nn ≤ 6) : SP E mX7_wayTo (d + 5) 0 0 [.ref m, .int (zz ↑r), .int (zz ↑nn)] [(m, ob 7 [.int (zz ↑np), .ref mP, .ref mW, .int (zz ↑nr), .ref mR, .ref mB, .ref mS, .int (zz ↑ac), .ref mA, .int (zz ↑ke), .ref mK, .int (zz ↑se), .ref mE, .ref mT, .int (zz ↑tl), .int (zz ↑at_), .ref mD, .int (zz ↑rp), .ref nP, .ref nW, .int (zz ↑rr), .ref nR, .ref nB, .ref mN, .ref mO, .ref mQ, .int (zz dp), .ref mX]), (mP, aI E 21 pg), (mW, aI E 10 wn), (mR, aI E 12 ro), (mN, aI E 7 nw), (mS, aI E 7 st), (mO, aI E 7 rw), (mQ, aI E 49 rs)] (fun v w1 => ∃ (nw2 rw2 rs2 : Nat → Int) (dp2 : Int), v = some (.int (zz (wtF (fun t => lvF (tnF np kd lf qt wd) np t 0 h) (ovH (rx r) (ry r)) (nn + 1) 0).1)) ∧ DG rw2 (wtF (fun t => lvF (tnF np kd lf qt wd) np t 0 h) (ovH (rx r) (ry r)) (nn + 1) 0) ∧ w1 = [(m, ob 7 [.int (zz ↑np), .ref mP, .ref mW, .int (zz ↑nr), .ref mR, .ref mB, .ref mS, .int (zz ↑ac), .ref mA, .int (zz ↑ke), .ref mK, .int (zz ↑se), .ref mE, .ref mT, .int (zz ↑tl), .int (zz ↑at_), .ref mD, .int (zz ↑rp), .ref nP, .ref nW, .int (zz ↑rr), .ref nR, .ref nB, .ref mN, .ref mO, .ref mQ, .int (zz dp2), .ref mX]), (mP, aI E 21 pg), (mW, aI E 10 wn), (mR, aI E 12 ro), (mN, aI E 7 nw2), (mS, aI E 7 st), (mO, aI E 7 rw2), (mQ, aI E 49 rs2)]) := by
  show RR E mX7_wayTo (d + 5) 0 0 0 [(0, .ref m), (1, .int (zz ↑r)), (2, .int (zz ↑nn))] [] [(m, ob 7 [.int (zz ↑np), .ref mP, .ref mW, .int (zz ↑nr), .ref mR, .ref mB, .ref mS, .int (zz ↑ac), .ref mA, .int (zz ↑ke), .ref mK, .int (zz ↑se), .ref mE, .ref mT, .int (zz ↑tl), .int (zz ↑at_), .ref mD, .int (zz ↑rp), .ref nP, .ref nW, .int (zz ↑rr), .ref nR, .ref nB, .ref mN, .ref mO, .ref mQ, .int (zz dp), .ref mX]), (mP, aI E 21 pg), (mW, aI E 10 wn), (mR, aI E 12 ro), (mN, aI E 7 nw), (mS, aI E 7 st), (mO, aI E 7 rw), (mQ, aI E 49 rs)] (fun v w1 => ∃ (nw2 rw2 rs2 : Nat → Int) (dp2 : Int), v = some (.int (zz (wtF (fun t => lvF (tnF np kd lf qt wd) np t 0 h) (ovH (rx r) (ry r)) (nn + 1) 0).1)) ∧ DG rw2 (wtF (fun t => lvF (tnF np kd lf qt wd) np t 0 h) (ovH (rx r) (ry r)) (nn + 1) 0) ∧ w1 = [(m, ob 7 [.int (zz ↑np), .ref mP, .ref mW, .int (zz ↑nr), .ref mR, .ref mB, .ref mS, .int (zz ↑ac), .ref mA, .int (zz ↑ke), .ref mK, .int (zz ↑se), .ref mE, .ref mT, .int (zz ↑tl), .int (zz ↑at_), .ref mD, .int (zz ↑rp), .ref nP, .ref nW, .int (zz ↑rr), .ref nR, .ref nB, .ref mN, .ref mO, .ref mQ, .int (zz dp2), .ref mX]), (mP, aI E 21 pg), (mW, aI E 10 wn), (mR, aI E 12 ro), (mN, aI E 7 nw2), (mS, aI E 7 st), (mO, aI E 7 rw2), (mQ, aI E 49 rs2)])
  have hp := hP.ok hpc
  have hr := hRo.ok hrc
  have hn := hpc.1
  have hr1 := hrc.1
  have hs := hA.ok ho hv
  obtain ⟨o0, o1, o2, o3, o5, o6⟩ := id ho
  obtain ⟨e0, e1, e2, e3, e4, e5, e6⟩ := hA.all
  have lp : ∀ (f M : Nat) (nw1 rw1 rs1 : Nat → Int) (dp1 : Int), M + f = nn + 1 → 1 ≤ M → wtF (fun t => lvF (tnF np kd lf qt wd) np t 0 h) (ovH (rx r) (ry r)) (nn + 1) 0 = wtF (fun t => lvF (tnF np kd lf qt wd) np t 0 h) (ovH (rx r) (ry r)) f M → RR E mX7_wayTo (d + 5) 0 0 32 [(0, .ref m), (1, .int (zz ↑r)), (2, .int (zz ↑nn)), (3, .int (zz ↑M))] [] [(m, ob 7 [.int (zz ↑np), .ref mP, .ref mW, .int (zz ↑nr), .ref mR, .ref mB, .ref mS, .int (zz ↑ac), .ref mA, .int (zz ↑ke), .ref mK, .int (zz ↑se), .ref mE, .ref mT, .int (zz ↑tl), .int (zz ↑at_), .ref mD, .int (zz ↑rp), .ref nP, .ref nW, .int (zz ↑rr), .ref nR, .ref nB, .ref mN, .ref mO, .ref mQ, .int (zz dp1), .ref mX]), (mP, aI E 21 pg), (mW, aI E 10 wn), (mR, aI E 12 ro), (mN, aI E 7 nw1), (mS, aI E 7 st), (mO, aI E 7 rw1), (mQ, aI E 49 rs1)] (fun v w1 => ∃ (nw2 rw2 rs2 : Nat → Int) (dp2 : Int), v = some (.int (zz (wtF (fun t => lvF (tnF np kd lf qt wd) np t 0 h) (ovH (rx r) (ry r)) (nn + 1) 0).1)) ∧ DG rw2 (wtF (fun t => lvF (tnF np kd lf qt wd) np t 0 h) (ovH (rx r) (ry r)) (nn + 1) 0) ∧ w1 = [(m, ob 7 [.int (zz ↑np), .ref mP, .ref mW, .int (zz ↑nr), .ref mR, .ref mB, .ref mS, .int (zz ↑ac), .ref mA, .int (zz ↑ke), .ref mK, .int (zz ↑se), .ref mE, .ref mT, .int (zz ↑tl), .int (zz ↑at_), .ref mD, .int (zz ↑rp), .ref nP, .ref nW, .int (zz ↑rr), .ref nR, .ref nB, .ref mN, .ref mO, .ref mQ, .int (zz dp2), .ref mX]), (mP, aI E 21 pg), (mW, aI E 10 wn), (mR, aI E 12 ro), (mN, aI E 7 nw2), (mS, aI E 7 st), (mO, aI E 7 rw2), (mQ, aI E 49 rs2)]) := by
    intro f
    induction f with
    | zero =>
      intro M nw1 rw1 rs1 dp1 h1 h2 h4
      rw [wtF] at h4
      refine rr_iload_n 3 dX7_wayTo_32 rfl ?_
      refine rr_iload_n 2 dX7_wayTo_33 rfl ?_
      refine rr_icmp_gt 80 dX7_wayTo_34 (by decide) (by omega) (by omega) (fun c_1 => ?_) (fun c_1 => ?_)
      · skip
        refine rr_bipush dX7_wayTo_80 (by decide) ?_
        exact rr_iret dX7_wayTo_82 rfl rfl ⟨nw1, rw1, rs1, dp1, by rw [h4], by rw [h4]; exact fun k hk => absurd hk (by show ¬ (k : Int) < -4; omega), rfl⟩
      · skip
        exfalso; omega
    | succ f ih =>
      intro M nw1 rw1 rs1 dp1 h1 h2 h4
      rw [wt_rem h2] at h4
      refine rr_iload_n 3 dX7_wayTo_32 rfl ?_
      refine rr_iload_n 2 dX7_wayTo_33 rfl ?_
      refine rr_icmp_gt 80 dX7_wayTo_34 (by decide) (by omega) (by omega) (fun c_2 => ?_) (fun c_2 => ?_)
      · skip
        exfalso; omega
      · skip
        refine rr_aload_n 0 dX7_wayTo_37 rfl ?_
        refine rr_call (wr := [(mP, aI E 21 pg), (mW, aI E 10 wn), (mR, aI E 12 ro)]) (call_V (q0 := 0) kX7_205 (c_beginsRows E (d + 2) m mP mW mR mB mS mA mK mE mT mD nP nW nR nB mN mO mQ mX np nr ac ke se tl at_ rp rr dp1 pg wn ro nw1 st kd lf qt wd rx ry h hP hpc hRo hrc hA ho hv rw1 rs1) rfl rfl rfl rfl (by omega) (by decide) (Nat.le_of_ble_eq_true rfl) (Nat.le_of_ble_eq_true rfl) dX7_wayTo_38) [0, 4, 5, 6, 7] [1, 2, 3] rfl rfl rfl rfl rfl (Nat.zero_le _) (Nat.zero_le _) (fun v w1 hp1 => ?_)
        obtain ⟨rfl, nw3, rw3, rs3, hS3, rfl⟩ := hp1
        refine RR.eq (st2 := []) (ws2 := [(mP, aI E 21 pg), (mW, aI E 10 wn), (mR, aI E 12 ro), (m, ob 7 [.int (zz ↑np), .ref mP, .ref mW, .int (zz ↑nr), .ref mR, .ref mB, .ref mS, .int (zz ↑ac), .ref mA, .int (zz ↑ke), .ref mK, .int (zz ↑se), .ref mE, .ref mT, .int (zz ↑tl), .int (zz ↑at_), .ref mD, .int (zz ↑rp), .ref nP, .ref nW, .int (zz ↑rr), .ref nR, .ref nB, .ref mN, .ref mO, .ref mQ, .int (zz 0), .ref mX]), (mN, aI E 7 nw3), (mS, aI E 7 st), (mO, aI E 7 rw3), (mQ, aI E 49 rs3)]) rfl rfl rfl rfl ?_
        refine RR.ws (ws2 := [(m, ob 7 [.int (zz ↑np), .ref mP, .ref mW, .int (zz ↑nr), .ref mR, .ref mB, .ref mS, .int (zz ↑ac), .ref mA, .int (zz ↑ke), .ref mK, .int (zz ↑se), .ref mE, .ref mT, .int (zz ↑tl), .int (zz ↑at_), .ref mD, .int (zz ↑rp), .ref nP, .ref nW, .int (zz ↑rr), .ref nR, .ref nB, .ref mN, .ref mO, .ref mQ, .int (zz 0), .ref mX]), (mP, aI E 21 pg), (mW, aI E 10 wn), (mR, aI E 12 ro), (mN, aI E 7 nw3), (mS, aI E 7 st), (mO, aI E 7 rw3), (mQ, aI E 49 rs3)]) [3, 0, 1, 2, 4, 5, 6, 7] rfl rfl ?_
        have lp2 : ∀ (L : Vs) (sk : Sk) (nw4 rw4 rs4 : Nat → Int), rem (tnF np kd lf qt wd) np M sk = L → STK rs4 rw4 sk → SOK np sk → SO1 sk → sk.length ≤ M + 1 → fdV M (ovH (rx r) (ry r)) (rem (tnF np kd lf qt wd) np M [(h, 0)]) = fdV M (ovH (rx r) (ry r)) L → RR E mX7_wayTo (d + 5) 0 0 41 [(0, .ref m), (1, .int (zz ↑r)), (2, .int (zz ↑nn)), (3, .int (zz ↑M))] [] [(m, ob 7 [.int (zz ↑np), .ref mP, .ref mW, .int (zz ↑nr), .ref mR, .ref mB, .ref mS, .int (zz ↑ac), .ref mA, .int (zz ↑ke), .ref mK, .int (zz ↑se), .ref mE, .ref mT, .int (zz ↑tl), .int (zz ↑at_), .ref mD, .int (zz ↑rp), .ref nP, .ref nW, .int (zz ↑rr), .ref nR, .ref nB, .ref mN, .ref mO, .ref mQ, .int (zz ((sk.length : Int) - 1)), .ref mX]), (mP, aI E 21 pg), (mW, aI E 10 wn), (mR, aI E 12 ro), (mN, aI E 7 nw4), (mS, aI E 7 st), (mO, aI E 7 rw4), (mQ, aI E 49 rs4)] (fun v w1 => ∃ (nw2 rw2 rs2 : Nat → Int) (dp2 : Int), v = some (.int (zz (wtF (fun t => lvF (tnF np kd lf qt wd) np t 0 h) (ovH (rx r) (ry r)) (nn + 1) 0).1)) ∧ DG rw2 (wtF (fun t => lvF (tnF np kd lf qt wd) np t 0 h) (ovH (rx r) (ry r)) (nn + 1) 0) ∧ w1 = [(m, ob 7 [.int (zz ↑np), .ref mP, .ref mW, .int (zz ↑nr), .ref mR, .ref mB, .ref mS, .int (zz ↑ac), .ref mA, .int (zz ↑ke), .ref mK, .int (zz ↑se), .ref mE, .ref mT, .int (zz ↑tl), .int (zz ↑at_), .ref mD, .int (zz ↑rp), .ref nP, .ref nW, .int (zz ↑rr), .ref nR, .ref nB, .ref mN, .ref mO, .ref mQ, .int (zz dp2), .ref mX]), (mP, aI E 21 pg), (mW, aI E 10 wn), (mR, aI E 12 ro), (mN, aI E 7 nw2), (mS, aI E 7 st), (mO, aI E 7 rw2), (mQ, aI E 49 rs2)]) := by
          intro L
          induction L with
          | nil =>
            intro sk nw4 rw4 rs4 hrm hS hO h1k hLn h5
            have h6 : wtF (fun t => lvF (tnF np kd lf qt wd) np t 0 h) (ovH (rx r) (ry r)) (nn + 1) 0 = wtF (fun t => lvF (tnF np kd lf qt wd) np t 0 h) (ovH (rx r) (ry r)) f (M + 1) := by rw [h4, h5]; rfl
            refine rr_aload_n 0 dX7_wayTo_41 rfl ?_
            refine rr_iload_n 3 dX7_wayTo_42 rfl ?_
            refine rr_call (wr := [(mR, aI E 12 ro), (mS, aI E 7 st)]) (call_V (q0 := 0) kX7_208 (c_nextRow E (d + 0) m mP mW mR mB mS mA mK mE mT mD nP nW nR nB mN mO mQ mX np nr ac ke se tl at_ rp rr pg wn nw4 kd lf qt wd hP hpc rw4 rs4 sk M (by omega) hS hO hLn) rfl rfl rfl rfl (by omega) (by decide) (Nat.le_of_ble_eq_true rfl) (Nat.le_of_ble_eq_true rfl) dX7_wayTo_43) [0, 1, 2, 4, 6, 7] [3, 5] rfl rfl rfl rfl rfl (Nat.zero_le _) (Nat.zero_le _) (fun v w1 hp1 => ?_)
            cases hnx : nxR (tnF np kd lf qt wd) np M sk with
            | none =>
              rw [hnx] at hp1
              obtain ⟨rfl, nw2, rfl⟩ := hp1
              refine RR.eq (st2 := [.int (zz 0)]) (ws2 := [(mR, aI E 12 ro), (mS, aI E 7 st), (m, ob 7 [.int (zz ↑np), .ref mP, .ref mW, .int (zz ↑nr), .ref mR, .ref mB, .ref mS, .int (zz ↑ac), .ref mA, .int (zz ↑ke), .ref mK, .int (zz ↑se), .ref mE, .ref mT, .int (zz ↑tl), .int (zz ↑at_), .ref mD, .int (zz ↑rp), .ref nP, .ref nW, .int (zz ↑rr), .ref nR, .ref nB, .ref mN, .ref mO, .ref mQ, .int (zz (-1)), .ref mX]), (mP, aI E 21 pg), (mW, aI E 10 wn), (mN, aI E 7 nw2), (mO, aI E 7 rw4), (mQ, aI E 49 rs4)]) rfl rfl rfl rfl ?_
              refine RR.ws (ws2 := [(m, ob 7 [.int (zz ↑np), .ref mP, .ref mW, .int (zz ↑nr), .ref mR, .ref mB, .ref mS, .int (zz ↑ac), .ref mA, .int (zz ↑ke), .ref mK, .int (zz ↑se), .ref mE, .ref mT, .int (zz ↑tl), .int (zz ↑at_), .ref mD, .int (zz ↑rp), .ref nP, .ref nW, .int (zz ↑rr), .ref nR, .ref nB, .ref mN, .ref mO, .ref mQ, .int (zz (-1)), .ref mX]), (mP, aI E 21 pg), (mW, aI E 10 wn), (mR, aI E 12 ro), (mN, aI E 7 nw2), (mS, aI E 7 st), (mO, aI E 7 rw4), (mQ, aI E 49 rs4)]) [2, 3, 4, 0, 5, 1, 6, 7] rfl rfl ?_
              refine rr_if_eq 74 dX7_wayTo_46 (by decide) (by omega) (fun c_3 => ?_) (fun c_3 => ?_)
              · skip
                refine rr_iinc (lv2 := [(0, .ref m), (1, .int (zz ↑r)), (2, .int (zz ↑nn)), (3, .int (zz (↑(M + 1))))]) 3 dX7_wayTo_74 rfl (by decide) rfl ?_
                refine rr_goto 32 dX7_wayTo_77 (by decide) ?_
                exact ih (M + 1) nw2 rw4 rs4 (-1) (by omega) (by omega) h6
              · skip
                exfalso; omega
            | some sk2 =>
              rw [hnx] at hp1
              obtain ⟨rfl, s2, c2, rest2, nw2, rw2, rs2, rfl, hA2, hS2, rfl⟩ := hp1
              exact absurd (hrm.symm.trans (rem_some hnx)) (by intro z; cases z)
          | cons v L ih2 =>
            intro sk nw4 rw4 rs4 hrm hS hO h1k hLn h5
            refine rr_aload_n 0 dX7_wayTo_41 rfl ?_
            refine rr_iload_n 3 dX7_wayTo_42 rfl ?_
            refine rr_call (wr := [(mR, aI E 12 ro), (mS, aI E 7 st)]) (call_V (q0 := 0) kX7_208 (c_nextRow E (d + 0) m mP mW mR mB mS mA mK mE mT mD nP nW nR nB mN mO mQ mX np nr ac ke se tl at_ rp rr pg wn nw4 kd lf qt wd hP hpc rw4 rs4 sk M (by omega) hS hO hLn) rfl rfl rfl rfl (by omega) (by decide) (Nat.le_of_ble_eq_true rfl) (Nat.le_of_ble_eq_true rfl) dX7_wayTo_43) [0, 1, 2, 4, 6, 7] [3, 5] rfl rfl rfl rfl rfl (Nat.zero_le _) (Nat.zero_le _) (fun v w1 hp1 => ?_)
            cases hnx : nxR (tnF np kd lf qt wd) np M sk with
            | none =>
              rw [hnx] at hp1
              obtain ⟨rfl, nw2, rfl⟩ := hp1
              exact absurd (hrm.symm.trans (rem_none hnx)) (by intro z; cases z)
            | some sk2 =>
              rw [hnx] at hp1
              obtain ⟨rfl, s2, c2, rest2, nw2, rw2, rs2, rfl, hA2, hS2, rfl⟩ := hp1
              obtain ⟨hO2, hL2⟩ := nxR_ok hpc hO hLn hnx
              have h12 := nxR_1 h1k hnx
              have hLr : rest2.length ≤ M := by rw [List.length_cons] at hL2; omega
              have hA4 : AG 7 nw2 (amF s2) := hA2
              have ho4 : hOK s2 := (hO2 (s2, c2) List.mem_cons_self).1
              have hv4 : hV np s2 := (hO2 (s2, c2) List.mem_cons_self).2.1
              have hm4 : mOK np nw2 := hA4.ok ho4 hv4
              obtain ⟨ea4, eb4, ec4, ed4, ee4, ef4, eg4⟩ := hA4.all
              obtain ⟨na4, nb4, nc4, nd4, nf4, ng4⟩ := id hm4
              refine RR.eq (st2 := [.int (zz 1)]) (ws2 := [(mR, aI E 12 ro), (mS, aI E 7 st), (m, ob 7 [.int (zz ↑np), .ref mP, .ref mW, .int (zz ↑nr), .ref mR, .ref mB, .ref mS, .int (zz ↑ac), .ref mA, .int (zz ↑ke), .ref mK, .int (zz ↑se), .ref mE, .ref mT, .int (zz ↑tl), .int (zz ↑at_), .ref mD, .int (zz ↑rp), .ref nP, .ref nW, .int (zz ↑rr), .ref nR, .ref nB, .ref mN, .ref mO, .ref mQ, .int (zz (rest2.length : Int)), .ref mX]), (mP, aI E 21 pg), (mW, aI E 10 wn), (mN, aI E 7 nw2), (mO, aI E 7 rw2), (mQ, aI E 49 rs2)]) rfl rfl rfl rfl ?_
              refine RR.ws (ws2 := [(m, ob 7 [.int (zz ↑np), .ref mP, .ref mW, .int (zz ↑nr), .ref mR, .ref mB, .ref mS, .int (zz ↑ac), .ref mA, .int (zz ↑ke), .ref mK, .int (zz ↑se), .ref mE, .ref mT, .int (zz ↑tl), .int (zz ↑at_), .ref mD, .int (zz ↑rp), .ref nP, .ref nW, .int (zz ↑rr), .ref nR, .ref nB, .ref mN, .ref mO, .ref mQ, .int (zz (rest2.length : Int)), .ref mX]), (mP, aI E 21 pg), (mW, aI E 10 wn), (mR, aI E 12 ro), (mN, aI E 7 nw2), (mS, aI E 7 st), (mO, aI E 7 rw2), (mQ, aI E 49 rs2)]) [2, 3, 4, 0, 5, 1, 6, 7] rfl rfl ?_
              obtain ⟨hv1, hv2⟩ := List.cons.inj (hrm.symm.trans (rem_some hnx))
              subst hv1
              have hov : ovM ro (nw2 0) (nw2 1) r = decide (s2 0 = rx r ∧ s2 1 = ry r) := ov_rel hRo hA2.six hi
              refine rr_if_eq 74 dX7_wayTo_46 (by decide) (by omega) (fun c_5 => ?_) (fun c_5 => ?_)
              · skip
                exfalso; omega
              · skip
                refine rr_aload_n 0 dX7_wayTo_49 rfl ?_
                refine rr_get fX7_199 0 rfl rfl dX7_wayTo_50 ?_
                refine rr_iload_n 3 dX7_wayTo_53 rfl ?_
                refine rr_icmp_ne 41 dX7_wayTo_54 (by decide) (by omega) (by omega) (fun c_6 => ?_) (fun c_6 => ?_)
                · skip
                  refine RR.eq (ws2 := [(m, ob 7 [.int (zz ↑np), .ref mP, .ref mW, .int (zz ↑nr), .ref mR, .ref mB, .ref mS, .int (zz ↑ac), .ref mA, .int (zz ↑ke), .ref mK, .int (zz ↑se), .ref mE, .ref mT, .int (zz ↑tl), .int (zz ↑at_), .ref mD, .int (zz ↑rp), .ref nP, .ref nW, .int (zz ↑rr), .ref nR, .ref nB, .ref mN, .ref mO, .ref mQ, .int (zz ((((s2, c2) :: rest2 : Sk).length : Int) - 1)), .ref mX]), (mP, aI E 21 pg), (mW, aI E 10 wn), (mR, aI E 12 ro), (mN, aI E 7 nw2), (mS, aI E 7 st), (mO, aI E 7 rw2), (mQ, aI E 49 rs2)]) rfl rfl rfl (by rw [List.length_cons, Int.natCast_add]; rw [show ((rest2.length : Int) + (1 : Nat) - 1) = (rest2.length : Int) by omega]) ?_
                  refine ih2 ((s2, c2) :: rest2) nw2 rw2 rs2 hv2.symm hS2 hO2 h12 hL2 (h5.trans (fdV_n ?_))
                  rw [ovH_iff]
                  dsimp only [hdS]
                  rw [List.length_cons]
                  first | omega | (rw [hov] at hz; have hz2 := of_decide_eq_false hz; omega)
                · skip
                  refine rr_aload_n 0 dX7_wayTo_57 rfl ?_
                  refine rr_callFi (ws2 := [(m, ob 7 [.int (zz ↑np), .ref mP, .ref mW, .int (zz ↑nr), .ref mR, .ref mB, .ref mS, .int (zz ↑ac), .ref mA, .int (zz ↑ke), .ref mK, .int (zz ↑se), .ref mE, .ref mT, .int (zz ↑tl), .int (zz ↑at_), .ref mD, .int (zz ↑rp), .ref nP, .ref nW, .int (zz ↑rr), .ref nR, .ref nB, .ref mN, .ref mO, .ref mQ, .int (zz (rest2.length : Int)), .ref mX]), (mP, aI E 21 pg), (mW, aI E 10 wn), (mR, aI E 12 ro), (mN, aI E 7 nw2), (mS, aI E 7 st), (mO, aI E 7 rw2), (mQ, aI E 49 rs2)]) (wr := [(mP, aI E 21 pg), (mW, aI E 10 wn), (mR, aI E 12 ro), (mS, aI E 7 st), (mO, aI E 7 rw2), (mQ, aI E 49 rs2)]) (call_V (q0 := 0) kX7_151 (c_MisDown E (d + 4) m mP mW mR mB mS mA mK mE mT mD nP nW nR nB mN mO mQ mX np nr ac ke se tl at_ rp rr (rest2.length : Int) nw2 (by omega)) rfl rfl rfl rfl (by omega) (by decide) (Nat.le_of_ble_eq_true rfl) (Nat.le_of_ble_eq_true rfl) dX7_wayTo_58) [0, 4] [1, 2, 3, 5, 6, 7] [6, 0, 1, 2, 7, 3, 4, 5] rfl rfl rfl rfl rfl rfl rfl ?_
                  refine rr_if_eqD 41 dX7_wayTo_61 (by decide) (fun c_7 => ?_) (fun c_7 => ?_)
                  · skip
                    refine RR.eq (ws2 := [(m, ob 7 [.int (zz ↑np), .ref mP, .ref mW, .int (zz ↑nr), .ref mR, .ref mB, .ref mS, .int (zz ↑ac), .ref mA, .int (zz ↑ke), .ref mK, .int (zz ↑se), .ref mE, .ref mT, .int (zz ↑tl), .int (zz ↑at_), .ref mD, .int (zz ↑rp), .ref nP, .ref nW, .int (zz ↑rr), .ref nR, .ref nB, .ref mN, .ref mO, .ref mQ, .int (zz ((((s2, c2) :: rest2 : Sk).length : Int) - 1)), .ref mX]), (mP, aI E 21 pg), (mW, aI E 10 wn), (mR, aI E 12 ro), (mN, aI E 7 nw2), (mS, aI E 7 st), (mO, aI E 7 rw2), (mQ, aI E 49 rs2)]) rfl rfl rfl (by rw [List.length_cons, Int.natCast_add]; rw [show ((rest2.length : Int) + (1 : Nat) - 1) = (rest2.length : Int) by omega]) ?_
                    refine ih2 ((s2, c2) :: rest2) nw2 rw2 rs2 hv2.symm hS2 hO2 h12 hL2 (h5.trans (fdV_n ?_))
                    rw [ovH_iff]
                    dsimp only [hdS]
                    rw [List.length_cons]
                    first | omega | (rw [hov] at hz; have hz2 := of_decide_eq_false hz; omega)
                  · skip
                    refine rr_aload_n 0 dX7_wayTo_64 rfl ?_
                    refine rr_iload_n 1 dX7_wayTo_65 rfl ?_
                    refine rr_callFi (ws2 := [(m, ob 7 [.int (zz ↑np), .ref mP, .ref mW, .int (zz ↑nr), .ref mR, .ref mB, .ref mS, .int (zz ↑ac), .ref mA, .int (zz ↑ke), .ref mK, .int (zz ↑se), .ref mE, .ref mT, .int (zz ↑tl), .int (zz ↑at_), .ref mD, .int (zz ↑rp), .ref nP, .ref nW, .int (zz ↑rr), .ref nR, .ref nB, .ref mN, .ref mO, .ref mQ, .int (zz (rest2.length : Int)), .ref mX]), (mP, aI E 21 pg), (mW, aI E 10 wn), (mR, aI E 12 ro), (mN, aI E 7 nw2), (mS, aI E 7 st), (mO, aI E 7 rw2), (mQ, aI E 49 rs2)]) (wr := [(mP, aI E 21 pg), (mW, aI E 10 wn), (mS, aI E 7 st), (mO, aI E 7 rw2), (mQ, aI E 49 rs2)]) (call_V (q0 := 0) kX7_154 (c_isOver E (d + 4) m mP mW mR mB mS mA mK mE mT mD nP nW nR nB mN mO mQ mX np nr ac ke se tl at_ rp rr (rest2.length : Int) ro nw2 r hr hm4 (by omega)) rfl rfl rfl rfl (by omega) (by decide) (Nat.le_of_ble_eq_true rfl) (Nat.le_of_ble_eq_true rfl) dX7_wayTo_66) [0, 3, 4] [1, 2, 5, 6, 7] [5, 0, 1, 6, 7, 2, 3, 4] rfl rfl rfl rfl rfl rfl rfl ?_
                    refine rr_if_eqB 41 dX7_wayTo_69 (by decide) (fun hz => ?_) (fun hz => ?_)
                    · skip
                      refine RR.eq (ws2 := [(m, ob 7 [.int (zz ↑np), .ref mP, .ref mW, .int (zz ↑nr), .ref mR, .ref mB, .ref mS, .int (zz ↑ac), .ref mA, .int (zz ↑ke), .ref mK, .int (zz ↑se), .ref mE, .ref mT, .int (zz ↑tl), .int (zz ↑at_), .ref mD, .int (zz ↑rp), .ref nP, .ref nW, .int (zz ↑rr), .ref nR, .ref nB, .ref mN, .ref mO, .ref mQ, .int (zz ((((s2, c2) :: rest2 : Sk).length : Int) - 1)), .ref mX]), (mP, aI E 21 pg), (mW, aI E 10 wn), (mR, aI E 12 ro), (mN, aI E 7 nw2), (mS, aI E 7 st), (mO, aI E 7 rw2), (mQ, aI E 49 rs2)]) rfl rfl rfl (by rw [List.length_cons, Int.natCast_add]; rw [show ((rest2.length : Int) + (1 : Nat) - 1) = (rest2.length : Int) by omega]) ?_
                      refine ih2 ((s2, c2) :: rest2) nw2 rw2 rs2 hv2.symm hS2 hO2 h12 hL2 (h5.trans (fdV_n ?_))
                      rw [ovH_iff]
                      dsimp only [hdS]
                      rw [List.length_cons]
                      first | omega | (rw [hov] at hz; have hz2 := of_decide_eq_false hz; omega)
                    · skip
                      have hyy : fdV M (ovH (rx r) (ry r)) ((((s2, c2) :: rest2 : Sk).length - 1, pth ((s2, c2) :: rest2), hdS ((s2, c2) :: rest2)) :: L) = some (pth ((s2, c2) :: rest2)) := by
                        rw [hov] at hz
                        have hz2 := of_decide_eq_true hz
                        exact fdV_y (by dsimp only; rw [List.length_cons]; omega) (by rw [ovH_iff]; dsimp only [hdS]; omega)
                      refine rr_iload_n 3 dX7_wayTo_72 rfl ?_
                      exact rr_iret dX7_wayTo_73 rfl rfl ⟨nw2, rw2, rs2, (rest2.length : Int), by rw [h4, h5, hyy]; rfl, by rw [h4, h5, hyy]; show DG rw2 ((M : Int), pth ((s2, c2) :: rest2)); intro k hk; have hk3 : (k : Int) < (M : Int) := hk; have hdg := STK.dig (np := np) (by omega) hS2 hO2 h12 k (by omega); rw [hdg]; show _ = ((pth ((s2, c2) :: rest2) / 8 ^ ((M : Int).toNat - 1 - k) % 8 : Nat) : Int); rw [Int.toNat_natCast, show M = rest2.length by omega], rfl⟩
        exact lp2 _ [(h, 0)] nw3 rw3 rs3 rfl hS3 (SOK_one ho hv) (fun q hq => absurd hq (by intro z; cases z)) (by show 1 ≤ M + 1; omega) rfl
  have hov0 : ovM ro (cpI nw 0 st 0 7 0) (cpI nw 0 st 0 7 1) r = decide (h 0 = rx r ∧ h 1 = ry r) := ov_rel hRo (AG.six (cp7 hA)) hi
  refine rr_aload_n 0 dX7_wayTo_0 rfl ?_
  refine rr_aload_n 0 dX7_wayTo_1 rfl ?_
  refine rr_get fX7_22 0 rfl rfl dX7_wayTo_2 ?_
  have ke_8 : cpI nw 0 st 0 7 0 = st 0 := rfl
  have ke_9 : cpI nw 0 st 0 7 1 = st 1 := rfl
  have ke_10 : cpI nw 0 st 0 7 2 = st 2 := rfl
  have ke_11 : cpI nw 0 st 0 7 3 = st 3 := rfl
  have ke_12 : cpI nw 0 st 0 7 4 = st 4 := rfl
  have ke_13 : cpI nw 0 st 0 7 5 = st 5 := rfl
  have ke_14 : cpI nw 0 st 0 7 6 = st 6 := rfl
  have hA15 : AG 7 (cpI nw 0 st 0 7) (amF h) := cp7 hA
  have ho15 : hOK h := ho
  have hv15 : hV np h := hv
  have hm15 : mOK np (cpI nw 0 st 0 7) := hA15.ok ho15 hv15
  obtain ⟨ea15, eb15, ec15, ed15, ee15, ef15, eg15⟩ := hA15.all
  obtain ⟨na15, nb15, nc15, nd15, nf15, ng15⟩ := id hm15
  refine rr_callFv (ws2 := [(m, ob 7 [.int (zz ↑np), .ref mP, .ref mW, .int (zz ↑nr), .ref mR, .ref mB, .ref mS, .int (zz ↑ac), .ref mA, .int (zz ↑ke), .ref mK, .int (zz ↑se), .ref mE, .ref mT, .int (zz ↑tl), .int (zz ↑at_), .ref mD, .int (zz ↑rp), .ref nP, .ref nW, .int (zz ↑rr), .ref nR, .ref nB, .ref mN, .ref mO, .ref mQ, .int (zz dp), .ref mX]), (mP, aI E 21 pg), (mW, aI E 10 wn), (mR, aI E 12 ro), (mN, aI E 7 (cpI nw 0 st 0 7)), (mS, aI E 7 st), (mO, aI E 7 rw), (mQ, aI E 49 rs)]) (wr := [(mP, aI E 21 pg), (mW, aI E 10 wn), (mR, aI E 12 ro), (mO, aI E 7 rw), (mQ, aI E 49 rs)]) (call_V (q0 := 0) kX7_180 (c_from E (d + 3) m mP mW mR mB mS mA mK mE mT mD nP nW nR nB mN mO mQ mX np nr ac ke se tl at_ rp rr dp mS nw st) rfl rfl rfl rfl (by omega) (by decide) (Nat.le_of_ble_eq_true rfl) (Nat.le_of_ble_eq_true rfl) dX7_wayTo_5) [0, 4, 5] [1, 2, 3, 6, 7] [5, 0, 1, 2, 6, 7, 3, 4] rfl rfl rfl rfl rfl rfl rfl ?_
  refine rr_aload_n 0 dX7_wayTo_8 rfl ?_
  refine rr_callFi (ws2 := [(m, ob 7 [.int (zz ↑np), .ref mP, .ref mW, .int (zz ↑nr), .ref mR, .ref mB, .ref mS, .int (zz ↑ac), .ref mA, .int (zz ↑ke), .ref mK, .int (zz ↑se), .ref mE, .ref mT, .int (zz ↑tl), .int (zz ↑at_), .ref mD, .int (zz ↑rp), .ref nP, .ref nW, .int (zz ↑rr), .ref nR, .ref nB, .ref mN, .ref mO, .ref mQ, .int (zz dp), .ref mX]), (mP, aI E 21 pg), (mW, aI E 10 wn), (mR, aI E 12 ro), (mN, aI E 7 (cpI nw 0 st 0 7)), (mS, aI E 7 st), (mO, aI E 7 rw), (mQ, aI E 49 rs)]) (wr := [(mP, aI E 21 pg), (mW, aI E 10 wn), (mR, aI E 12 ro), (mS, aI E 7 st), (mO, aI E 7 rw), (mQ, aI E 49 rs)]) (call_V (q0 := 0) kX7_151 (c_MisDown E (d + 4) m mP mW mR mB mS mA mK mE mT mD nP nW nR nB mN mO mQ mX np nr ac ke se tl at_ rp rr dp (cpI nw 0 st 0 7) (by omega)) rfl rfl rfl rfl (by omega) (by decide) (Nat.le_of_ble_eq_true rfl) (Nat.le_of_ble_eq_true rfl) dX7_wayTo_9) [0, 4] [1, 2, 3, 5, 6, 7] [6, 0, 1, 2, 7, 3, 4, 5] rfl rfl rfl rfl rfl rfl rfl ?_
  refine rr_if_eqD 30 dX7_wayTo_12 (by decide) (fun c_16 => ?_) (fun c_16 => ?_)
  · skip
    refine rr_iconst dX7_wayTo_30 ?_
    refine rr_istore_n (lv2 := [(0, .ref m), (1, .int (zz ↑r)), (2, .int (zz ↑nn)), (3, .int (zz 1))]) dX7_wayTo_31 (by decide) rfl ?_
    exact lp nn 1 (cpI nw 0 st 0 7) rw rs dp (by omega) (by omega) (wt_0 (by omega))
  · skip
    refine rr_aload_n 0 dX7_wayTo_15 rfl ?_
    refine rr_iload_n 1 dX7_wayTo_16 rfl ?_
    refine rr_callFi (ws2 := [(m, ob 7 [.int (zz ↑np), .ref mP, .ref mW, .int (zz ↑nr), .ref mR, .ref mB, .ref mS, .int (zz ↑ac), .ref mA, .int (zz ↑ke), .ref mK, .int (zz ↑se), .ref mE, .ref mT, .int (zz ↑tl), .int (zz ↑at_), .ref mD, .int (zz ↑rp), .ref nP, .ref nW, .int (zz ↑rr), .ref nR, .ref nB, .ref mN, .ref mO, .ref mQ, .int (zz dp), .ref mX]), (mP, aI E 21 pg), (mW, aI E 10 wn), (mR, aI E 12 ro), (mN, aI E 7 (cpI nw 0 st 0 7)), (mS, aI E 7 st), (mO, aI E 7 rw), (mQ, aI E 49 rs)]) (wr := [(mP, aI E 21 pg), (mW, aI E 10 wn), (mS, aI E 7 st), (mO, aI E 7 rw), (mQ, aI E 49 rs)]) (call_V (q0 := 0) kX7_154 (c_isOver E (d + 4) m mP mW mR mB mS mA mK mE mT mD nP nW nR nB mN mO mQ mX np nr ac ke se tl at_ rp rr dp ro (cpI nw 0 st 0 7) r hr hm15 (by omega)) rfl rfl rfl rfl (by omega) (by decide) (Nat.le_of_ble_eq_true rfl) (Nat.le_of_ble_eq_true rfl) dX7_wayTo_17) [0, 3, 4] [1, 2, 5, 6, 7] [5, 0, 1, 6, 7, 2, 3, 4] rfl rfl rfl rfl rfl rfl rfl ?_
    refine rr_if_eqB 27 dX7_wayTo_20 (by decide) (fun hz0 => ?_) (fun hz0 => ?_)
    · skip
      refine rr_bipush dX7_wayTo_27 (by decide) ?_
      exact rr_iret dX7_wayTo_29 rfl rfl ⟨cpI nw 0 st 0 7, rw, rs, dp, by rw [(wt_0d (by omega)).trans (if_neg (of_decide_eq_false (hov0.symm.trans hz0)))], by rw [(wt_0d (by omega)).trans (if_neg (of_decide_eq_false (hov0.symm.trans hz0)))]; exact fun k hk => absurd hk (by dsimp only; omega), rfl⟩
    · skip
      refine rr_iconst dX7_wayTo_23 ?_
      refine rr_goto 29 dX7_wayTo_24 (by decide) ?_
      exact rr_iret dX7_wayTo_29 rfl rfl ⟨cpI nw 0 st 0 7, rw, rs, dp, by rw [(wt_0d (by omega)).trans (if_pos (of_decide_eq_true (hov0.symm.trans hz0)))], by rw [(wt_0d (by omega)).trans (if_pos (of_decide_eq_true (hov0.symm.trans hz0)))]; exact fun k hk => absurd hk (by dsimp only; omega), rfl⟩
set_option maxRecDepth 100000 in
set_option maxHeartbeats 400000 in
theorem c_Mway_bad (E : Ev) (d : Nat) (m mP mW mR mB mS mA mK mE mT mD nP nW nR nB mN mO mQ mX : Nat) (np nr ac ke se tl at_ rp rr : Nat) (dp : Int) (y w : Int) (gy : -2147483648 ≤ y ∧ y < 2147483648) (gw : -2147483648 ≤ w ∧ w < 2147483648) (hn : nr ≤ 6) (hc : ¬ ((0 ≤ y ∧ y < (nr : Int)) ∧ -1 ≤ w ∧ w ≤ 5)) : SP E mX7_way (d + 6) 0 0 [.ref m, .int (zz y), .int (zz w)] [(m, ob 7 [.int (zz ↑np), .ref mP, .ref mW, .int (zz ↑nr), .ref mR, .ref mB, .ref mS, .int (zz ↑ac), .ref mA, .int (zz ↑ke), .ref mK, .int (zz ↑se), .ref mE, .ref mT, .int (zz ↑tl), .int (zz ↑at_), .ref mD, .int (zz ↑rp), .ref nP, .ref nW, .int (zz ↑rr), .ref nR, .ref nB, .ref mN, .ref mO, .ref mQ, .int (zz dp), .ref mX])] (FP (some (.int (zz (-1)))) [(m, ob 7 [.int (zz ↑np), .ref mP, .ref mW, .int (zz ↑nr), .ref mR, .ref mB, .ref mS, .int (zz ↑ac), .ref mA, .int (zz ↑ke), .ref mK, .int (zz ↑se), .ref mE, .ref mT, .int (zz ↑tl), .int (zz ↑at_), .ref mD, .int (zz ↑rp), .ref nP, .ref nW, .int (zz ↑rr), .ref nR, .ref nB, .ref mN, .ref mO, .ref mQ, .int (zz dp), .ref mX])]) := by
  show RR E mX7_way (d + 6) 0 0 0 [(0, .ref m), (1, .int (zz y)), (2, .int (zz w))] [] [(m, ob 7 [.int (zz ↑np), .ref mP, .ref mW, .int (zz ↑nr), .ref mR, .ref mB, .ref mS, .int (zz ↑ac), .ref mA, .int (zz ↑ke), .ref mK, .int (zz ↑se), .ref mE, .ref mT, .int (zz ↑tl), .int (zz ↑at_), .ref mD, .int (zz ↑rp), .ref nP, .ref nW, .int (zz ↑rr), .ref nR, .ref nB, .ref mN, .ref mO, .ref mQ, .int (zz dp), .ref mX])] (FP (some (.int (zz (-1)))) [(m, ob 7 [.int (zz ↑np), .ref mP, .ref mW, .int (zz ↑nr), .ref mR, .ref mB, .ref mS, .int (zz ↑ac), .ref mA, .int (zz ↑ke), .ref mK, .int (zz ↑se), .ref mE, .ref mT, .int (zz ↑tl), .int (zz ↑at_), .ref mD, .int (zz ↑rp), .ref nP, .ref nW, .int (zz ↑rr), .ref nR, .ref nB, .ref mN, .ref mO, .ref mQ, .int (zz dp), .ref mX])])
  refine rr_aload_n 0 dX7_way_0 rfl ?_
  refine rr_iload_n 1 dX7_way_1 rfl ?_
  refine rr_callFi (ws2 := [(m, ob 7 [.int (zz ↑np), .ref mP, .ref mW, .int (zz ↑nr), .ref mR, .ref mB, .ref mS, .int (zz ↑ac), .ref mA, .int (zz ↑ke), .ref mK, .int (zz ↑se), .ref mE, .ref mT, .int (zz ↑tl), .int (zz ↑at_), .ref mD, .int (zz ↑rp), .ref nP, .ref nW, .int (zz ↑rr), .ref nR, .ref nB, .ref mN, .ref mO, .ref mQ, .int (zz dp), .ref mX])]) (wr := []) (call_V (q0 := 0) kX7_184 (c_MisRoof E (d + 4) m mP mW mR mB mS mA mK mE mT mD nP nW nR nB mN mO mQ mX np nr ac ke se tl at_ rp rr dp y (by omega) (by omega)) rfl rfl rfl rfl (by omega) (by decide) (Nat.le_of_ble_eq_true rfl) (Nat.le_of_ble_eq_true rfl) dX7_way_2) [0] [] [0] rfl rfl rfl rfl rfl rfl rfl ?_
  refine rr_if_eqD 17 dX7_way_5 (by decide) (fun c_1 => ?_) (fun c_1 => ?_)
  · skip
    refine rr_iconst dX7_way_17 ?_
    exact rr_iret dX7_way_18 rfl rfl ⟨rfl, rfl⟩
  · skip
    refine rr_iload_n 2 dX7_way_8 rfl ?_
    refine rr_iconst dX7_way_9 ?_
    refine rr_iconst dX7_way_10 ?_
    refine rr_callFi (ws2 := [(m, ob 7 [.int (zz ↑np), .ref mP, .ref mW, .int (zz ↑nr), .ref mR, .ref mB, .ref mS, .int (zz ↑ac), .ref mA, .int (zz ↑ke), .ref mK, .int (zz ↑se), .ref mE, .ref mT, .int (zz ↑tl), .int (zz ↑at_), .ref mD, .int (zz ↑rp), .ref nP, .ref nW, .int (zz ↑rr), .ref nR, .ref nB, .ref mN, .ref mO, .ref mQ, .int (zz dp), .ref mX])]) (wr := [(m, ob 7 [.int (zz ↑np), .ref mP, .ref mW, .int (zz ↑nr), .ref mR, .ref mB, .ref mS, .int (zz ↑ac), .ref mA, .int (zz ↑ke), .ref mK, .int (zz ↑se), .ref mE, .ref mT, .int (zz ↑tl), .int (zz ↑at_), .ref mD, .int (zz ↑rp), .ref nP, .ref nW, .int (zz ↑rr), .ref nR, .ref nB, .ref mN, .ref mO, .ref mQ, .int (zz dp), .ref mX])]) (call_S kX7_88 (c_in E (d + 5) w (-1) 5 (by omega) (by omega) (by omega)) rfl (by omega) (by decide) (Nat.le_of_ble_eq_true rfl) (Nat.le_of_ble_eq_true rfl) dX7_way_11) [] [0] [0] rfl rfl rfl rfl rfl rfl rfl ?_
    refine rr_if_neD 19 dX7_way_14 (by decide) (fun c_2 => ?_) (fun c_2 => ?_)
    · skip
      exfalso; omega
    · skip
      refine rr_iconst dX7_way_17 ?_
      exact rr_iret dX7_way_18 rfl rfl ⟨rfl, rfl⟩
set_option maxRecDepth 100000 in
set_option maxHeartbeats 400000 in
theorem c_Mway_y (E : Ev) (d : Nat) (m mP mW mR mB mS mA mK mE mT mD nP nW nR nB mN mO mQ mX : Nat) (np nr ac ke se tl at_ rp rr : Nat) (dp : Int) (pg wn ro nw st kd lf qt wd rx ry h : Nat → Int) (hP : PL np kd lf qt wd pg wn) (hpc : pOK np kd lf qt wd) (hRo : RoL nr rx ry ro) (hrc : rOK nr rx ry) (hA : AG 7 st (amF h)) (ho : hOK h) (hv : hV np h) (rw rs : Nat → Int) (r : Nat) (hi : r < nr) (k1 : Int) (hk : -1 ≤ k1 ∧ k1 ≤ 5) : SP E mX7_way (d + 6) 0 0 [.ref m, .int (zz ↑r), .int (zz k1)] [(m, ob 7 [.int (zz ↑np), .ref mP, .ref mW, .int (zz ↑nr), .ref mR, .ref mB, .ref mS, .int (zz ↑ac), .ref mA, .int (zz ↑ke), .ref mK, .int (zz ↑se), .ref mE, .ref mT, .int (zz ↑tl), .int (zz ↑at_), .ref mD, .int (zz ↑rp), .ref nP, .ref nW, .int (zz ↑rr), .ref nR, .ref nB, .ref mN, .ref mO, .ref mQ, .int (zz dp), .ref mX]), (mP, aI E 21 pg), (mW, aI E 10 wn), (mR, aI E 12 ro), (mN, aI E 7 nw), (mS, aI E 7 st), (mO, aI E 7 rw), (mQ, aI E 49 rs)] (fun v w1 => v = some (.int (zz (wyA (wtF (fun t => lvF (tnF np kd lf qt wd) np t 0 h) (ovH (rx r) (ry r)) (6 + 1) 0) k1))) ∧ ∃ (nw2 rw2 rs2 : Nat → Int) (dp2 : Int), w1 = [(m, ob 7 [.int (zz ↑np), .ref mP, .ref mW, .int (zz ↑nr), .ref mR, .ref mB, .ref mS, .int (zz ↑ac), .ref mA, .int (zz ↑ke), .ref mK, .int (zz ↑se), .ref mE, .ref mT, .int (zz ↑tl), .int (zz ↑at_), .ref mD, .int (zz ↑rp), .ref nP, .ref nW, .int (zz ↑rr), .ref nR, .ref nB, .ref mN, .ref mO, .ref mQ, .int (zz dp2), .ref mX]), (mP, aI E 21 pg), (mW, aI E 10 wn), (mR, aI E 12 ro), (mN, aI E 7 nw2), (mS, aI E 7 st), (mO, aI E 7 rw2), (mQ, aI E 49 rs2)]) := by
  show RR E mX7_way (d + 6) 0 0 0 [(0, .ref m), (1, .int (zz ↑r)), (2, .int (zz k1))] [] [(m, ob 7 [.int (zz ↑np), .ref mP, .ref mW, .int (zz ↑nr), .ref mR, .ref mB, .ref mS, .int (zz ↑ac), .ref mA, .int (zz ↑ke), .ref mK, .int (zz ↑se), .ref mE, .ref mT, .int (zz ↑tl), .int (zz ↑at_), .ref mD, .int (zz ↑rp), .ref nP, .ref nW, .int (zz ↑rr), .ref nR, .ref nB, .ref mN, .ref mO, .ref mQ, .int (zz dp), .ref mX]), (mP, aI E 21 pg), (mW, aI E 10 wn), (mR, aI E 12 ro), (mN, aI E 7 nw), (mS, aI E 7 st), (mO, aI E 7 rw), (mQ, aI E 49 rs)] (fun v w1 => v = some (.int (zz (wyA (wtF (fun t => lvF (tnF np kd lf qt wd) np t 0 h) (ovH (rx r) (ry r)) (6 + 1) 0) k1))) ∧ ∃ (nw2 rw2 rs2 : Nat → Int) (dp2 : Int), w1 = [(m, ob 7 [.int (zz ↑np), .ref mP, .ref mW, .int (zz ↑nr), .ref mR, .ref mB, .ref mS, .int (zz ↑ac), .ref mA, .int (zz ↑ke), .ref mK, .int (zz ↑se), .ref mE, .ref mT, .int (zz ↑tl), .int (zz ↑at_), .ref mD, .int (zz ↑rp), .ref nP, .ref nW, .int (zz ↑rr), .ref nR, .ref nB, .ref mN, .ref mO, .ref mQ, .int (zz dp2), .ref mX]), (mP, aI E 21 pg), (mW, aI E 10 wn), (mR, aI E 12 ro), (mN, aI E 7 nw2), (mS, aI E 7 st), (mO, aI E 7 rw2), (mQ, aI E 49 rs2)])
  have hp := hP.ok hpc
  have hr := hRo.ok hrc
  have hn := hpc.1
  have hr1 := hrc.1
  have hs := hA.ok ho hv
  obtain ⟨o0, o1, o2, o3, o5, o6⟩ := id ho
  obtain ⟨e0, e1, e2, e3, e4, e5, e6⟩ := hA.all
  refine rr_aload_n 0 dX7_way_0 rfl ?_
  refine rr_iload_n 1 dX7_way_1 rfl ?_
  refine rr_callFi (ws2 := [(m, ob 7 [.int (zz ↑np), .ref mP, .ref mW, .int (zz ↑nr), .ref mR, .ref mB, .ref mS, .int (zz ↑ac), .ref mA, .int (zz ↑ke), .ref mK, .int (zz ↑se), .ref mE, .ref mT, .int (zz ↑tl), .int (zz ↑at_), .ref mD, .int (zz ↑rp), .ref nP, .ref nW, .int (zz ↑rr), .ref nR, .ref nB, .ref mN, .ref mO, .ref mQ, .int (zz dp), .ref mX]), (mP, aI E 21 pg), (mW, aI E 10 wn), (mR, aI E 12 ro), (mN, aI E 7 nw), (mS, aI E 7 st), (mO, aI E 7 rw), (mQ, aI E 49 rs)]) (wr := [(mP, aI E 21 pg), (mW, aI E 10 wn), (mR, aI E 12 ro), (mN, aI E 7 nw), (mS, aI E 7 st), (mO, aI E 7 rw), (mQ, aI E 49 rs)]) (call_V (q0 := 0) kX7_184 (c_MisRoof E (d + 4) m mP mW mR mB mS mA mK mE mT mD nP nW nR nB mN mO mQ mX np nr ac ke se tl at_ rp rr dp ↑r (by omega) (by omega)) rfl rfl rfl rfl (by omega) (by decide) (Nat.le_of_ble_eq_true rfl) (Nat.le_of_ble_eq_true rfl) dX7_way_2) [0] [1, 2, 3, 4, 5, 6, 7] [7, 0, 1, 2, 3, 4, 5, 6] rfl rfl rfl rfl rfl rfl rfl ?_
  refine rr_if_eqD 17 dX7_way_5 (by decide) (fun c_1 => ?_) (fun c_1 => ?_)
  · skip
    exfalso; omega
  · skip
    refine rr_iload_n 2 dX7_way_8 rfl ?_
    refine rr_iconst dX7_way_9 ?_
    refine rr_iconst dX7_way_10 ?_
    refine rr_callFi (ws2 := [(m, ob 7 [.int (zz ↑np), .ref mP, .ref mW, .int (zz ↑nr), .ref mR, .ref mB, .ref mS, .int (zz ↑ac), .ref mA, .int (zz ↑ke), .ref mK, .int (zz ↑se), .ref mE, .ref mT, .int (zz ↑tl), .int (zz ↑at_), .ref mD, .int (zz ↑rp), .ref nP, .ref nW, .int (zz ↑rr), .ref nR, .ref nB, .ref mN, .ref mO, .ref mQ, .int (zz dp), .ref mX]), (mP, aI E 21 pg), (mW, aI E 10 wn), (mR, aI E 12 ro), (mN, aI E 7 nw), (mS, aI E 7 st), (mO, aI E 7 rw), (mQ, aI E 49 rs)]) (wr := [(m, ob 7 [.int (zz ↑np), .ref mP, .ref mW, .int (zz ↑nr), .ref mR, .ref mB, .ref mS, .int (zz ↑ac), .ref mA, .int (zz ↑ke), .ref mK, .int (zz ↑se), .ref mE, .ref mT, .int (zz ↑tl), .int (zz ↑at_), .ref mD, .int (zz ↑rp), .ref nP, .ref nW, .int (zz ↑rr), .ref nR, .ref nB, .ref mN, .ref mO, .ref mQ, .int (zz dp), .ref mX]), (mP, aI E 21 pg), (mW, aI E 10 wn), (mR, aI E 12 ro), (mN, aI E 7 nw), (mS, aI E 7 st), (mO, aI E 7 rw), (mQ, aI E 49 rs)]) (call_S kX7_88 (c_in E (d + 5) k1 (-1) 5 (by omega) (by omega) (by omega)) rfl (by omega) (by decide) (Nat.le_of_ble_eq_true rfl) (Nat.le_of_ble_eq_true rfl) dX7_way_11) [] [0, 1, 2, 3, 4, 5, 6, 7] [0, 1, 2, 3, 4, 5, 6, 7] rfl rfl rfl rfl rfl rfl rfl ?_
    refine rr_if_neD 19 dX7_way_14 (by decide) (fun c_2 => ?_) (fun c_2 => ?_)
    · skip
      refine rr_aload_n 0 dX7_way_19 rfl ?_
      refine rr_iload_n 1 dX7_way_20 rfl ?_
      refine rr_bipush dX7_way_21 (by decide) ?_
      have hrg := wtF_rg (fun t => lvF (tnF np kd lf qt wd) np t 0 h) (ovH (rx r) (ry r)) (6 + 1) 0
      refine rr_call (wr := []) (call_V (q0 := 0) kX7_211 (c_wayTo E (d + 0) m mP mW mR mB mS mA mK mE mT mD nP nW nR nB mN mO mQ mX np nr ac ke se tl at_ rp rr dp pg wn ro nw st kd lf qt wd rx ry h hP hpc hRo hrc hA ho hv rw rs r 6 (by omega) (by omega)) rfl rfl rfl rfl (by omega) (by decide) (Nat.le_of_ble_eq_true rfl) (Nat.le_of_ble_eq_true rfl) dX7_way_23) [0, 1, 2, 3, 4, 5, 6, 7] [] rfl rfl rfl rfl rfl (Nat.zero_le _) (Nat.zero_le _) (fun v w1 hp1 => ?_)
      obtain ⟨nw5, rw5, rs5, dp5, rfl, hdg5, rfl⟩ := hp1
      refine RR.eq (st2 := [.int (zz ((wtF (fun t => lvF (tnF np kd lf qt wd) np t 0 h) (ovH (rx r) (ry r)) (6 + 1) 0).1))]) (ws2 := [(m, ob 7 [.int (zz ↑np), .ref mP, .ref mW, .int (zz ↑nr), .ref mR, .ref mB, .ref mS, .int (zz ↑ac), .ref mA, .int (zz ↑ke), .ref mK, .int (zz ↑se), .ref mE, .ref mT, .int (zz ↑tl), .int (zz ↑at_), .ref mD, .int (zz ↑rp), .ref nP, .ref nW, .int (zz ↑rr), .ref nR, .ref nB, .ref mN, .ref mO, .ref mQ, .int (zz dp5), .ref mX]), (mP, aI E 21 pg), (mW, aI E 10 wn), (mR, aI E 12 ro), (mN, aI E 7 nw5), (mS, aI E 7 st), (mO, aI E 7 rw5), (mQ, aI E 49 rs5)]) rfl rfl rfl rfl ?_
      refine rr_istore_n (lv2 := [(0, .ref m), (1, .int (zz ↑r)), (2, .int (zz k1)), (3, .int (zz ((wtF (fun t => lvF (tnF np kd lf qt wd) np t 0 h) (ovH (rx r) (ry r)) (6 + 1) 0).1)))]) dX7_way_26 (by decide) rfl ?_
      refine rr_iload_n 2 dX7_way_27 rfl ?_
      refine rr_if_ge 35 dX7_way_28 (by decide) (by omega) (fun c_3 => ?_) (fun c_3 => ?_)
      · skip
        refine rr_iload_n 2 dX7_way_35 rfl ?_
        refine rr_iload_n 3 dX7_way_36 rfl ?_
        refine rr_icmp_ge 49 dX7_way_37 (by decide) (by omega) (by omega) (fun c_4 => ?_) (fun c_4 => ?_)
        · skip
          refine rr_bipush dX7_way_49 (by decide) ?_
          exact rr_iret dX7_way_51 rfl rfl ⟨congrArg (fun z => some (Value.int (zz z))) (by unfold wyA; rw [if_neg (by omega), if_neg (by omega)]), nw5, rw5, rs5, dp5, rfl⟩
        · skip
          refine rr_aload_n 0 dX7_way_40 rfl ?_
          refine rr_get fX7_55 0 rfl rfl dX7_way_41 ?_
          refine rr_iload_n 2 dX7_way_44 rfl ?_
          refine rr_iald 6 k1.toNat rfl (by omega) (by omega) (by omega) dX7_way_45 ?_
          refine rr_goto 51 dX7_way_46 (by decide) ?_
          exact rr_iret dX7_way_51 rfl rfl ⟨congrArg (fun z => some (Value.int (zz z))) (by unfold wyA; rw [if_neg (by omega), if_pos (by omega)]; exact hdg5 k1.toNat (by omega)), nw5, rw5, rs5, dp5, rfl⟩
      · skip
        refine rr_iload_n 3 dX7_way_31 rfl ?_
        refine rr_goto 51 dX7_way_32 (by decide) ?_
        exact rr_iret dX7_way_51 rfl rfl ⟨congrArg (fun z => some (Value.int (zz z))) (by unfold wyA; rw [if_pos (by omega)]), nw5, rw5, rs5, dp5, rfl⟩
    · skip
      exfalso; omega
set_option maxRecDepth 100000 in
set_option maxHeartbeats 400000 in
theorem c_Mnear_bad (E : Ev) (d : Nat) (m mP mW mR mB mS mA mK mE mT mD nP nW nR nB mN mO mQ mX : Nat) (np nr ac ke se tl at_ rp rr : Nat) (dp : Int) (y : Int) (gy : -2147483648 ≤ y ∧ y < 2147483648) (hc : ¬ (0 ≤ y ∧ y ≤ 5)) : SP E mX7_near (d + 6) 0 0 [.ref m, .int (zz y)] [(m, ob 7 [.int (zz ↑np), .ref mP, .ref mW, .int (zz ↑nr), .ref mR, .ref mB, .ref mS, .int (zz ↑ac), .ref mA, .int (zz ↑ke), .ref mK, .int (zz ↑se), .ref mE, .ref mT, .int (zz ↑tl), .int (zz ↑at_), .ref mD, .int (zz ↑rp), .ref nP, .ref nW, .int (zz ↑rr), .ref nR, .ref nB, .ref mN, .ref mO, .ref mQ, .int (zz dp), .ref mX])] (FP (some (.int (zz (-1)))) [(m, ob 7 [.int (zz ↑np), .ref mP, .ref mW, .int (zz ↑nr), .ref mR, .ref mB, .ref mS, .int (zz ↑ac), .ref mA, .int (zz ↑ke), .ref mK, .int (zz ↑se), .ref mE, .ref mT, .int (zz ↑tl), .int (zz ↑at_), .ref mD, .int (zz ↑rp), .ref nP, .ref nW, .int (zz ↑rr), .ref nR, .ref nB, .ref mN, .ref mO, .ref mQ, .int (zz dp), .ref mX])]) := by
  show RR E mX7_near (d + 6) 0 0 0 [(0, .ref m), (1, .int (zz y))] [] [(m, ob 7 [.int (zz ↑np), .ref mP, .ref mW, .int (zz ↑nr), .ref mR, .ref mB, .ref mS, .int (zz ↑ac), .ref mA, .int (zz ↑ke), .ref mK, .int (zz ↑se), .ref mE, .ref mT, .int (zz ↑tl), .int (zz ↑at_), .ref mD, .int (zz ↑rp), .ref nP, .ref nW, .int (zz ↑rr), .ref nR, .ref nB, .ref mN, .ref mO, .ref mQ, .int (zz dp), .ref mX])] (FP (some (.int (zz (-1)))) [(m, ob 7 [.int (zz ↑np), .ref mP, .ref mW, .int (zz ↑nr), .ref mR, .ref mB, .ref mS, .int (zz ↑ac), .ref mA, .int (zz ↑ke), .ref mK, .int (zz ↑se), .ref mE, .ref mT, .int (zz ↑tl), .int (zz ↑at_), .ref mD, .int (zz ↑rp), .ref nP, .ref nW, .int (zz ↑rr), .ref nR, .ref nB, .ref mN, .ref mO, .ref mQ, .int (zz dp), .ref mX])])
  refine rr_iload_n 1 dX7_near_0 rfl ?_
  refine rr_iconst dX7_near_1 ?_
  refine rr_iconst dX7_near_2 ?_
  refine rr_callFi (ws2 := [(m, ob 7 [.int (zz ↑np), .ref mP, .ref mW, .int (zz ↑nr), .ref mR, .ref mB, .ref mS, .int (zz ↑ac), .ref mA, .int (zz ↑ke), .ref mK, .int (zz ↑se), .ref mE, .ref mT, .int (zz ↑tl), .int (zz ↑at_), .ref mD, .int (zz ↑rp), .ref nP, .ref nW, .int (zz ↑rr), .ref nR, .ref nB, .ref mN, .ref mO, .ref mQ, .int (zz dp), .ref mX])]) (wr := [(m, ob 7 [.int (zz ↑np), .ref mP, .ref mW, .int (zz ↑nr), .ref mR, .ref mB, .ref mS, .int (zz ↑ac), .ref mA, .int (zz ↑ke), .ref mK, .int (zz ↑se), .ref mE, .ref mT, .int (zz ↑tl), .int (zz ↑at_), .ref mD, .int (zz ↑rp), .ref nP, .ref nW, .int (zz ↑rr), .ref nR, .ref nB, .ref mN, .ref mO, .ref mQ, .int (zz dp), .ref mX])]) (call_S kX7_88 (c_in E (d + 5) y 0 5 (by omega) (by omega) (by omega)) rfl (by omega) (by decide) (Nat.le_of_ble_eq_true rfl) (Nat.le_of_ble_eq_true rfl) dX7_near_3) [] [0] [0] rfl rfl rfl rfl rfl rfl rfl ?_
  refine rr_if_neD 11 dX7_near_6 (by decide) (fun c_1 => ?_) (fun c_1 => ?_)
  · skip
    exfalso; omega
  · skip
    refine rr_iconst dX7_near_9 ?_
    exact rr_iret dX7_near_10 rfl rfl ⟨rfl, rfl⟩
set_option maxRecDepth 100000 in
set_option maxHeartbeats 400000 in
theorem c_Mnear_y (E : Ev) (d : Nat) (m mP mW mR mB mS mA mK mE mT mD nP nW nR nB mN mO mQ mX : Nat) (np nr ac ke se tl at_ rp rr : Nat) (dp : Int) (pg wn ro nw st kd lf qt wd rx ry h : Nat → Int) (hP : PL np kd lf qt wd pg wn) (hpc : pOK np kd lf qt wd) (hRo : RoL nr rx ry ro) (hrc : rOK nr rx ry) (hA : AG 7 st (amF h)) (ho : hOK h) (hv : hV np h) (rw rs : Nat → Int) (mm : Nat) (hm : mm ≤ 5) : SP E mX7_near (d + 6) 0 0 [.ref m, .int (zz ↑mm)] [(m, ob 7 [.int (zz ↑np), .ref mP, .ref mW, .int (zz ↑nr), .ref mR, .ref mB, .ref mS, .int (zz ↑ac), .ref mA, .int (zz ↑ke), .ref mK, .int (zz ↑se), .ref mE, .ref mT, .int (zz ↑tl), .int (zz ↑at_), .ref mD, .int (zz ↑rp), .ref nP, .ref nW, .int (zz ↑rr), .ref nR, .ref nB, .ref mN, .ref mO, .ref mQ, .int (zz dp), .ref mX]), (mP, aI E 21 pg), (mW, aI E 10 wn), (mR, aI E 12 ro), (mN, aI E 7 nw), (mS, aI E 7 st), (mO, aI E 7 rw), (mQ, aI E 49 rs)] (fun v w1 => v = some (.int (zz ((bitsTo (fun r => decide (0 ≤ (wtF (fun t => lvF (tnF np kd lf qt wd) np t 0 h) (ovH (rx r) (ry r)) (mm + 1) 0).1)) nr : Nat) : Int))) ∧ ∃ (nw2 rw2 rs2 : Nat → Int) (dp2 : Int), w1 = [(m, ob 7 [.int (zz ↑np), .ref mP, .ref mW, .int (zz ↑nr), .ref mR, .ref mB, .ref mS, .int (zz ↑ac), .ref mA, .int (zz ↑ke), .ref mK, .int (zz ↑se), .ref mE, .ref mT, .int (zz ↑tl), .int (zz ↑at_), .ref mD, .int (zz ↑rp), .ref nP, .ref nW, .int (zz ↑rr), .ref nR, .ref nB, .ref mN, .ref mO, .ref mQ, .int (zz dp2), .ref mX]), (mP, aI E 21 pg), (mW, aI E 10 wn), (mR, aI E 12 ro), (mN, aI E 7 nw2), (mS, aI E 7 st), (mO, aI E 7 rw2), (mQ, aI E 49 rs2)]) := by
  show RR E mX7_near (d + 6) 0 0 0 [(0, .ref m), (1, .int (zz ↑mm))] [] [(m, ob 7 [.int (zz ↑np), .ref mP, .ref mW, .int (zz ↑nr), .ref mR, .ref mB, .ref mS, .int (zz ↑ac), .ref mA, .int (zz ↑ke), .ref mK, .int (zz ↑se), .ref mE, .ref mT, .int (zz ↑tl), .int (zz ↑at_), .ref mD, .int (zz ↑rp), .ref nP, .ref nW, .int (zz ↑rr), .ref nR, .ref nB, .ref mN, .ref mO, .ref mQ, .int (zz dp), .ref mX]), (mP, aI E 21 pg), (mW, aI E 10 wn), (mR, aI E 12 ro), (mN, aI E 7 nw), (mS, aI E 7 st), (mO, aI E 7 rw), (mQ, aI E 49 rs)] (fun v w1 => v = some (.int (zz ((bitsTo (fun r => decide (0 ≤ (wtF (fun t => lvF (tnF np kd lf qt wd) np t 0 h) (ovH (rx r) (ry r)) (mm + 1) 0).1)) nr : Nat) : Int))) ∧ ∃ (nw2 rw2 rs2 : Nat → Int) (dp2 : Int), w1 = [(m, ob 7 [.int (zz ↑np), .ref mP, .ref mW, .int (zz ↑nr), .ref mR, .ref mB, .ref mS, .int (zz ↑ac), .ref mA, .int (zz ↑ke), .ref mK, .int (zz ↑se), .ref mE, .ref mT, .int (zz ↑tl), .int (zz ↑at_), .ref mD, .int (zz ↑rp), .ref nP, .ref nW, .int (zz ↑rr), .ref nR, .ref nB, .ref mN, .ref mO, .ref mQ, .int (zz dp2), .ref mX]), (mP, aI E 21 pg), (mW, aI E 10 wn), (mR, aI E 12 ro), (mN, aI E 7 nw2), (mS, aI E 7 st), (mO, aI E 7 rw2), (mQ, aI E 49 rs2)])
  have hp := hP.ok hpc
  have hr := hRo.ok hrc
  have hn := hpc.1
  have hr1 := hrc.1
  have hs := hA.ok ho hv
  obtain ⟨o0, o1, o2, o3, o5, o6⟩ := id ho
  obtain ⟨e0, e1, e2, e3, e4, e5, e6⟩ := hA.all
  have lp : ∀ (n i : Nat) (nw1 rw1 rs1 : Nat → Int) (dp1 : Int), i + n = nr → RR E mX7_near (d + 6) 0 0 15 [(0, .ref m), (1, .int (zz ↑mm)), (2, .int (zz (↑(bitsTo (fun r => decide (0 ≤ (wtF (fun t => lvF (tnF np kd lf qt wd) np t 0 h) (ovH (rx r) (ry r)) (mm + 1) 0).1)) i)))), (3, .int (zz ↑i))] [] [(m, ob 7 [.int (zz ↑np), .ref mP, .ref mW, .int (zz ↑nr), .ref mR, .ref mB, .ref mS, .int (zz ↑ac), .ref mA, .int (zz ↑ke), .ref mK, .int (zz ↑se), .ref mE, .ref mT, .int (zz ↑tl), .int (zz ↑at_), .ref mD, .int (zz ↑rp), .ref nP, .ref nW, .int (zz ↑rr), .ref nR, .ref nB, .ref mN, .ref mO, .ref mQ, .int (zz dp1), .ref mX]), (mP, aI E 21 pg), (mW, aI E 10 wn), (mR, aI E 12 ro), (mN, aI E 7 nw1), (mS, aI E 7 st), (mO, aI E 7 rw1), (mQ, aI E 49 rs1)] (fun v w1 => v = some (.int (zz ((bitsTo (fun r => decide (0 ≤ (wtF (fun t => lvF (tnF np kd lf qt wd) np t 0 h) (ovH (rx r) (ry r)) (mm + 1) 0).1)) nr : Nat) : Int))) ∧ ∃ (nw2 rw2 rs2 : Nat → Int) (dp2 : Int), w1 = [(m, ob 7 [.int (zz ↑np), .ref mP, .ref mW, .int (zz ↑nr), .ref mR, .ref mB, .ref mS, .int (zz ↑ac), .ref mA, .int (zz ↑ke), .ref mK, .int (zz ↑se), .ref mE, .ref mT, .int (zz ↑tl), .int (zz ↑at_), .ref mD, .int (zz ↑rp), .ref nP, .ref nW, .int (zz ↑rr), .ref nR, .ref nB, .ref mN, .ref mO, .ref mQ, .int (zz dp2), .ref mX]), (mP, aI E 21 pg), (mW, aI E 10 wn), (mR, aI E 12 ro), (mN, aI E 7 nw2), (mS, aI E 7 st), (mO, aI E 7 rw2), (mQ, aI E 49 rs2)]) := by
    intro n
    induction n with
    | zero =>
      intro i nw1 rw1 rs1 dp1 h1
      obtain rfl : i = nr := by omega
      refine rr_iload_n 3 dX7_near_15 rfl ?_
      refine rr_aload_n 0 dX7_near_16 rfl ?_
      refine rr_get fX7_92 0 rfl rfl dX7_near_17 ?_
      refine rr_icmp_ge 48 dX7_near_20 (by decide) (by omega) (by omega) (fun c_1 => ?_) (fun c_1 => ?_)
      · skip
        refine rr_iload_n 2 dX7_near_48 rfl ?_
        exact rr_iret dX7_near_49 rfl rfl ⟨rfl, nw1, rw1, rs1, dp1, rfl⟩
      · skip
        exfalso; omega
    | succ n ih =>
      intro i nw1 rw1 rs1 dp1 h1
      have hi : i < nr := by omega
      refine rr_iload_n 3 dX7_near_15 rfl ?_
      refine rr_aload_n 0 dX7_near_16 rfl ?_
      refine rr_get fX7_92 0 rfl rfl dX7_near_17 ?_
      refine rr_icmp_ge 48 dX7_near_20 (by decide) (by omega) (by omega) (fun c_2 => ?_) (fun c_2 => ?_)
      · skip
        exfalso; omega
      · skip
        refine rr_iload_n 2 dX7_near_23 rfl ?_
        refine rr_aload_n 0 dX7_near_24 rfl ?_
        refine rr_iload_n 3 dX7_near_25 rfl ?_
        refine rr_iload_n 1 dX7_near_26 rfl ?_
        have hrg := wtF_rg (fun t => lvF (tnF np kd lf qt wd) np t 0 h) (ovH (rx i) (ry i)) (mm + 1) 0
        refine rr_call (wr := []) (call_V (q0 := 0) kX7_211 (c_wayTo E (d + 0) m mP mW mR mB mS mA mK mE mT mD nP nW nR nB mN mO mQ mX np nr ac ke se tl at_ rp rr dp1 pg wn ro nw1 st kd lf qt wd rx ry h hP hpc hRo hrc hA ho hv rw1 rs1 i mm (by omega) (by omega)) rfl rfl rfl rfl (by omega) (by decide) (Nat.le_of_ble_eq_true rfl) (Nat.le_of_ble_eq_true rfl) dX7_near_27) [0, 1, 2, 3, 4, 5, 6, 7] [] rfl rfl rfl rfl rfl (Nat.zero_le _) (Nat.zero_le _) (fun v w1 hp1 => ?_)
        obtain ⟨nw5, rw5, rs5, dp5, rfl, hdg5, rfl⟩ := hp1
        refine RR.eq (st2 := [.int (zz ((wtF (fun t => lvF (tnF np kd lf qt wd) np t 0 h) (ovH (rx i) (ry i)) (mm + 1) 0).1)), .int (zz (↑(bitsTo (fun r => decide (0 ≤ (wtF (fun t => lvF (tnF np kd lf qt wd) np t 0 h) (ovH (rx r) (ry r)) (mm + 1) 0).1)) i)))]) (ws2 := [(m, ob 7 [.int (zz ↑np), .ref mP, .ref mW, .int (zz ↑nr), .ref mR, .ref mB, .ref mS, .int (zz ↑ac), .ref mA, .int (zz ↑ke), .ref mK, .int (zz ↑se), .ref mE, .ref mT, .int (zz ↑tl), .int (zz ↑at_), .ref mD, .int (zz ↑rp), .ref nP, .ref nW, .int (zz ↑rr), .ref nR, .ref nB, .ref mN, .ref mO, .ref mQ, .int (zz dp5), .ref mX]), (mP, aI E 21 pg), (mW, aI E 10 wn), (mR, aI E 12 ro), (mN, aI E 7 nw5), (mS, aI E 7 st), (mO, aI E 7 rw5), (mQ, aI E 49 rs5)]) rfl rfl rfl rfl ?_
        refine rr_if_lt 39 dX7_near_30 (by decide) (by omega) (fun c_3 => ?_) (fun c_3 => ?_)
        · skip
          refine rr_iconst dX7_near_39 ?_
          refine rr_ior (a := bitsTo (fun r => decide (0 ≤ (wtF (fun t => lvF (tnF np kd lf qt wd) np t 0 h) (ovH (rx r) (ry r)) (mm + 1) 0).1)) i) (b := 0) dX7_near_40 ?_
          refine rr_top (b := ↑(bitsTo (fun r => decide (0 ≤ (wtF (fun t => lvF (tnF np kd lf qt wd) np t 0 h) (ovH (rx r) (ry r)) (mm + 1) 0).1)) (i + 1))) (by rw [Nat.or_zero, bitsTo, if_neg (by rw [decide_eq_true_eq]; omega)]) ?_
          refine rr_istore_n (lv2 := [(0, .ref m), (1, .int (zz ↑mm)), (2, .int (zz (↑(bitsTo (fun r => decide (0 ≤ (wtF (fun t => lvF (tnF np kd lf qt wd) np t 0 h) (ovH (rx r) (ry r)) (mm + 1) 0).1)) (i + 1))))), (3, .int (zz ↑i))]) dX7_near_41 (by decide) rfl ?_
          refine rr_iinc (lv2 := [(0, .ref m), (1, .int (zz ↑mm)), (2, .int (zz (↑(bitsTo (fun r => decide (0 ≤ (wtF (fun t => lvF (tnF np kd lf qt wd) np t 0 h) (ovH (rx r) (ry r)) (mm + 1) 0).1)) (i + 1))))), (3, .int (zz (↑(i + 1))))]) 3 dX7_near_42 rfl (by decide) rfl ?_
          refine rr_goto 15 dX7_near_45 (by decide) ?_
          exact ih (i + 1) nw5 rw5 rs5 dp5 (by omega)
        · skip
          refine rr_iconst dX7_near_33 ?_
          refine rr_iload_n 3 dX7_near_34 rfl ?_
          refine rr_ishl (n := 1) (k := i) dX7_near_35 (by omega) (by have := Nat.pow_le_pow_right (n := 2) (by omega) (show i ≤ 9 by omega); omega) ?_
          refine rr_top (b := ((2 ^ i : Nat) : Int)) (by rw [Nat.one_mul]) ?_
          refine rr_goto 40 dX7_near_36 (by decide) ?_
          refine rr_ior (a := bitsTo (fun r => decide (0 ≤ (wtF (fun t => lvF (tnF np kd lf qt wd) np t 0 h) (ovH (rx r) (ry r)) (mm + 1) 0).1)) i) (b := 2 ^ i) dX7_near_40 ?_
          refine rr_top (b := ↑(bitsTo (fun r => decide (0 ≤ (wtF (fun t => lvF (tnF np kd lf qt wd) np t 0 h) (ovH (rx r) (ry r)) (mm + 1) 0).1)) (i + 1))) (by rw [bitsTo, if_pos (by rw [decide_eq_true_eq]; omega)]) ?_
          refine rr_istore_n (lv2 := [(0, .ref m), (1, .int (zz ↑mm)), (2, .int (zz (↑(bitsTo (fun r => decide (0 ≤ (wtF (fun t => lvF (tnF np kd lf qt wd) np t 0 h) (ovH (rx r) (ry r)) (mm + 1) 0).1)) (i + 1))))), (3, .int (zz ↑i))]) dX7_near_41 (by decide) rfl ?_
          refine rr_iinc (lv2 := [(0, .ref m), (1, .int (zz ↑mm)), (2, .int (zz (↑(bitsTo (fun r => decide (0 ≤ (wtF (fun t => lvF (tnF np kd lf qt wd) np t 0 h) (ovH (rx r) (ry r)) (mm + 1) 0).1)) (i + 1))))), (3, .int (zz (↑(i + 1))))]) 3 dX7_near_42 rfl (by decide) rfl ?_
          refine rr_goto 15 dX7_near_45 (by decide) ?_
          exact ih (i + 1) nw5 rw5 rs5 dp5 (by omega)
  refine rr_iload_n 1 dX7_near_0 rfl ?_
  refine rr_iconst dX7_near_1 ?_
  refine rr_iconst dX7_near_2 ?_
  refine rr_callFi (ws2 := [(m, ob 7 [.int (zz ↑np), .ref mP, .ref mW, .int (zz ↑nr), .ref mR, .ref mB, .ref mS, .int (zz ↑ac), .ref mA, .int (zz ↑ke), .ref mK, .int (zz ↑se), .ref mE, .ref mT, .int (zz ↑tl), .int (zz ↑at_), .ref mD, .int (zz ↑rp), .ref nP, .ref nW, .int (zz ↑rr), .ref nR, .ref nB, .ref mN, .ref mO, .ref mQ, .int (zz dp), .ref mX]), (mP, aI E 21 pg), (mW, aI E 10 wn), (mR, aI E 12 ro), (mN, aI E 7 nw), (mS, aI E 7 st), (mO, aI E 7 rw), (mQ, aI E 49 rs)]) (wr := [(m, ob 7 [.int (zz ↑np), .ref mP, .ref mW, .int (zz ↑nr), .ref mR, .ref mB, .ref mS, .int (zz ↑ac), .ref mA, .int (zz ↑ke), .ref mK, .int (zz ↑se), .ref mE, .ref mT, .int (zz ↑tl), .int (zz ↑at_), .ref mD, .int (zz ↑rp), .ref nP, .ref nW, .int (zz ↑rr), .ref nR, .ref nB, .ref mN, .ref mO, .ref mQ, .int (zz dp), .ref mX]), (mP, aI E 21 pg), (mW, aI E 10 wn), (mR, aI E 12 ro), (mN, aI E 7 nw), (mS, aI E 7 st), (mO, aI E 7 rw), (mQ, aI E 49 rs)]) (call_S kX7_88 (c_in E (d + 5) ↑mm 0 5 (by omega) (by omega) (by omega)) rfl (by omega) (by decide) (Nat.le_of_ble_eq_true rfl) (Nat.le_of_ble_eq_true rfl) dX7_near_3) [] [0, 1, 2, 3, 4, 5, 6, 7] [0, 1, 2, 3, 4, 5, 6, 7] rfl rfl rfl rfl rfl rfl rfl ?_
  refine rr_if_neD 11 dX7_near_6 (by decide) (fun c_4 => ?_) (fun c_4 => ?_)
  · skip
    refine rr_iconst dX7_near_11 ?_
    refine rr_istore_n (lv2 := [(0, .ref m), (1, .int (zz ↑mm)), (2, .int (zz 0))]) dX7_near_12 (by decide) rfl ?_
    refine rr_iconst dX7_near_13 ?_
    refine rr_istore_n (lv2 := [(0, .ref m), (1, .int (zz ↑mm)), (2, .int (zz 0)), (3, .int (zz 0))]) dX7_near_14 (by decide) rfl ?_
    exact lp nr 0 nw rw rs dp (by omega)
  · skip
    exfalso; omega
set_option maxRecDepth 100000 in
set_option maxHeartbeats 400000 in
theorem c_Mlikely_bad (E : Ev) (d : Nat) (m mP mW mR mB mS mA mK mE mT mD nP nW nR nB mN mO mQ mX : Nat) (np nr ac ke se tl at_ rp rr : Nat) (dp : Int) (y w : Int) (gy : -2147483648 ≤ y ∧ y < 2147483648) (gw : -2147483648 ≤ w ∧ w < 2147483648) (hc : ¬ ((0 ≤ y ∧ y ≤ 5) ∧ 0 ≤ w ∧ w ≤ 1)) : SP E mX7_likely (d + 5) 0 0 [.ref m, .int (zz y), .int (zz w)] [(m, ob 7 [.int (zz ↑np), .ref mP, .ref mW, .int (zz ↑nr), .ref mR, .ref mB, .ref mS, .int (zz ↑ac), .ref mA, .int (zz ↑ke), .ref mK, .int (zz ↑se), .ref mE, .ref mT, .int (zz ↑tl), .int (zz ↑at_), .ref mD, .int (zz ↑rp), .ref nP, .ref nW, .int (zz ↑rr), .ref nR, .ref nB, .ref mN, .ref mO, .ref mQ, .int (zz dp), .ref mX])] (FP (some (.int (zz (-1)))) [(m, ob 7 [.int (zz ↑np), .ref mP, .ref mW, .int (zz ↑nr), .ref mR, .ref mB, .ref mS, .int (zz ↑ac), .ref mA, .int (zz ↑ke), .ref mK, .int (zz ↑se), .ref mE, .ref mT, .int (zz ↑tl), .int (zz ↑at_), .ref mD, .int (zz ↑rp), .ref nP, .ref nW, .int (zz ↑rr), .ref nR, .ref nB, .ref mN, .ref mO, .ref mQ, .int (zz dp), .ref mX])]) := by
  show RR E mX7_likely (d + 5) 0 0 0 [(0, .ref m), (1, .int (zz y)), (2, .int (zz w))] [] [(m, ob 7 [.int (zz ↑np), .ref mP, .ref mW, .int (zz ↑nr), .ref mR, .ref mB, .ref mS, .int (zz ↑ac), .ref mA, .int (zz ↑ke), .ref mK, .int (zz ↑se), .ref mE, .ref mT, .int (zz ↑tl), .int (zz ↑at_), .ref mD, .int (zz ↑rp), .ref nP, .ref nW, .int (zz ↑rr), .ref nR, .ref nB, .ref mN, .ref mO, .ref mQ, .int (zz dp), .ref mX])] (FP (some (.int (zz (-1)))) [(m, ob 7 [.int (zz ↑np), .ref mP, .ref mW, .int (zz ↑nr), .ref mR, .ref mB, .ref mS, .int (zz ↑ac), .ref mA, .int (zz ↑ke), .ref mK, .int (zz ↑se), .ref mE, .ref mT, .int (zz ↑tl), .int (zz ↑at_), .ref mD, .int (zz ↑rp), .ref nP, .ref nW, .int (zz ↑rr), .ref nR, .ref nB, .ref mN, .ref mO, .ref mQ, .int (zz dp), .ref mX])])
  refine rr_iload_n 1 dX7_likely_0 rfl ?_
  refine rr_iconst dX7_likely_1 ?_
  refine rr_iconst dX7_likely_2 ?_
  refine rr_callFi (ws2 := [(m, ob 7 [.int (zz ↑np), .ref mP, .ref mW, .int (zz ↑nr), .ref mR, .ref mB, .ref mS, .int (zz ↑ac), .ref mA, .int (zz ↑ke), .ref mK, .int (zz ↑se), .ref mE, .ref mT, .int (zz ↑tl), .int (zz ↑at_), .ref mD, .int (zz ↑rp), .ref nP, .ref nW, .int (zz ↑rr), .ref nR, .ref nB, .ref mN, .ref mO, .ref mQ, .int (zz dp), .ref mX])]) (wr := [(m, ob 7 [.int (zz ↑np), .ref mP, .ref mW, .int (zz ↑nr), .ref mR, .ref mB, .ref mS, .int (zz ↑ac), .ref mA, .int (zz ↑ke), .ref mK, .int (zz ↑se), .ref mE, .ref mT, .int (zz ↑tl), .int (zz ↑at_), .ref mD, .int (zz ↑rp), .ref nP, .ref nW, .int (zz ↑rr), .ref nR, .ref nB, .ref mN, .ref mO, .ref mQ, .int (zz dp), .ref mX])]) (call_S kX7_88 (c_in E (d + 4) y 0 5 (by omega) (by omega) (by omega)) rfl (by omega) (by decide) (Nat.le_of_ble_eq_true rfl) (Nat.le_of_ble_eq_true rfl) dX7_likely_3) [] [0] [0] rfl rfl rfl rfl rfl rfl rfl ?_
  refine rr_if_eqD 18 dX7_likely_6 (by decide) (fun c_1 => ?_) (fun c_1 => ?_)
  · skip
    refine rr_iconst dX7_likely_18 ?_
    exact rr_iret dX7_likely_19 rfl rfl ⟨rfl, rfl⟩
  · skip
    refine rr_iload_n 2 dX7_likely_9 rfl ?_
    refine rr_iconst dX7_likely_10 ?_
    refine rr_iconst dX7_likely_11 ?_
    refine rr_callFi (ws2 := [(m, ob 7 [.int (zz ↑np), .ref mP, .ref mW, .int (zz ↑nr), .ref mR, .ref mB, .ref mS, .int (zz ↑ac), .ref mA, .int (zz ↑ke), .ref mK, .int (zz ↑se), .ref mE, .ref mT, .int (zz ↑tl), .int (zz ↑at_), .ref mD, .int (zz ↑rp), .ref nP, .ref nW, .int (zz ↑rr), .ref nR, .ref nB, .ref mN, .ref mO, .ref mQ, .int (zz dp), .ref mX])]) (wr := [(m, ob 7 [.int (zz ↑np), .ref mP, .ref mW, .int (zz ↑nr), .ref mR, .ref mB, .ref mS, .int (zz ↑ac), .ref mA, .int (zz ↑ke), .ref mK, .int (zz ↑se), .ref mE, .ref mT, .int (zz ↑tl), .int (zz ↑at_), .ref mD, .int (zz ↑rp), .ref nP, .ref nW, .int (zz ↑rr), .ref nR, .ref nB, .ref mN, .ref mO, .ref mQ, .int (zz dp), .ref mX])]) (call_S kX7_88 (c_in E (d + 4) w 0 1 (by omega) (by omega) (by omega)) rfl (by omega) (by decide) (Nat.le_of_ble_eq_true rfl) (Nat.le_of_ble_eq_true rfl) dX7_likely_12) [] [0] [0] rfl rfl rfl rfl rfl rfl rfl ?_
    refine rr_if_neD 20 dX7_likely_15 (by decide) (fun c_2 => ?_) (fun c_2 => ?_)
    · skip
      exfalso; omega
    · skip
      refine rr_iconst dX7_likely_18 ?_
      exact rr_iret dX7_likely_19 rfl rfl ⟨rfl, rfl⟩
set_option maxRecDepth 100000 in
set_option maxHeartbeats 400000 in
theorem c_Mlikely_y (E : Ev) (d : Nat) (m mP mW mR mB mS mA mK mE mT mD nP nW nR nB mN mO mQ mX : Nat) (np nr ac ke se tl at_ rp rr : Nat) (dp : Int) (pg wn ro nw st kd lf qt wd rx ry h : Nat → Int) (hP : PL np kd lf qt wd pg wn) (hpc : pOK np kd lf qt wd) (hRo : RoL nr rx ry ro) (hrc : rOK nr rx ry) (hA : AG 7 st (amF h)) (ho : hOK h) (hv : hV np h) (rw rs : Nat → Int) (hnp : 1 ≤ np) (n T : Nat) (w : Int) (hn5 : n ≤ 5) (hw : 0 ≤ w ∧ w ≤ 1) (hT : T = (if landF nr rx ry h then np ^ n else 0) + smV nr np n rx ry (trF (tnF np kd lf qt wd) np n 0 0 h)) (hTl : T ≤ np ^ n) : SP E mX7_likely (d + 5) 0 0 [.ref m, .int (zz ↑n), .int (zz w)] [(m, ob 7 [.int (zz ↑np), .ref mP, .ref mW, .int (zz ↑nr), .ref mR, .ref mB, .ref mS, .int (zz ↑ac), .ref mA, .int (zz ↑ke), .ref mK, .int (zz ↑se), .ref mE, .ref mT, .int (zz ↑tl), .int (zz ↑at_), .ref mD, .int (zz ↑rp), .ref nP, .ref nW, .int (zz ↑rr), .ref nR, .ref nB, .ref mN, .ref mO, .ref mQ, .int (zz dp), .ref mX]), (mP, aI E 21 pg), (mW, aI E 10 wn), (mR, aI E 12 ro), (mN, aI E 7 nw), (mS, aI E 7 st), (mO, aI E 7 rw), (mQ, aI E 49 rs)] (fun v w1 => v = some (.int (zz (likG T (np ^ n) w))) ∧ ∃ (nw2 rw2 rs2 : Nat → Int) (dp2 : Int), w1 = [(m, ob 7 [.int (zz ↑np), .ref mP, .ref mW, .int (zz ↑nr), .ref mR, .ref mB, .ref mS, .int (zz ↑ac), .ref mA, .int (zz ↑ke), .ref mK, .int (zz ↑se), .ref mE, .ref mT, .int (zz ↑tl), .int (zz ↑at_), .ref mD, .int (zz ↑rp), .ref nP, .ref nW, .int (zz ↑rr), .ref nR, .ref nB, .ref mN, .ref mO, .ref mQ, .int (zz dp2), .ref mX]), (mP, aI E 21 pg), (mW, aI E 10 wn), (mR, aI E 12 ro), (mN, aI E 7 nw2), (mS, aI E 7 st), (mO, aI E 7 rw2), (mQ, aI E 49 rs2)]) := by
  show RR E mX7_likely (d + 5) 0 0 0 [(0, .ref m), (1, .int (zz ↑n)), (2, .int (zz w))] [] [(m, ob 7 [.int (zz ↑np), .ref mP, .ref mW, .int (zz ↑nr), .ref mR, .ref mB, .ref mS, .int (zz ↑ac), .ref mA, .int (zz ↑ke), .ref mK, .int (zz ↑se), .ref mE, .ref mT, .int (zz ↑tl), .int (zz ↑at_), .ref mD, .int (zz ↑rp), .ref nP, .ref nW, .int (zz ↑rr), .ref nR, .ref nB, .ref mN, .ref mO, .ref mQ, .int (zz dp), .ref mX]), (mP, aI E 21 pg), (mW, aI E 10 wn), (mR, aI E 12 ro), (mN, aI E 7 nw), (mS, aI E 7 st), (mO, aI E 7 rw), (mQ, aI E 49 rs)] (fun v w1 => v = some (.int (zz (likG T (np ^ n) w))) ∧ ∃ (nw2 rw2 rs2 : Nat → Int) (dp2 : Int), w1 = [(m, ob 7 [.int (zz ↑np), .ref mP, .ref mW, .int (zz ↑nr), .ref mR, .ref mB, .ref mS, .int (zz ↑ac), .ref mA, .int (zz ↑ke), .ref mK, .int (zz ↑se), .ref mE, .ref mT, .int (zz ↑tl), .int (zz ↑at_), .ref mD, .int (zz ↑rp), .ref nP, .ref nW, .int (zz ↑rr), .ref nR, .ref nB, .ref mN, .ref mO, .ref mQ, .int (zz dp2), .ref mX]), (mP, aI E 21 pg), (mW, aI E 10 wn), (mR, aI E 12 ro), (mN, aI E 7 nw2), (mS, aI E 7 st), (mO, aI E 7 rw2), (mQ, aI E 49 rs2)])
  have hp := hP.ok hpc
  have hr := hRo.ok hrc
  have hn := hpc.1
  have hr1 := hrc.1
  have hs := hA.ok ho hv
  obtain ⟨o0, o1, o2, o3, o5, o6⟩ := id ho
  obtain ⟨e0, e1, e2, e3, e4, e5, e6⟩ := hA.all
  have hBn : np ^ n ≤ 16807 := pow_le5 hn hn5
  have hBp : 0 < np ^ n := Nat.pow_pos (by omega)
  have hgp : 0 < Nat.gcd T (np ^ n) := Nat.gcd_pos_of_pos_right _ hBp
  have hgl : Nat.gcd T (np ^ n) ≤ np ^ n := Nat.gcd_le_right _ hBp
  obtain ⟨B, hB⟩ : ∃ B : Nat, B = np ^ n := ⟨_, rfl⟩
  rw [← hB] at hBn hBp hgp hgl hTl ⊢
  have lp3 : ∀ (k z y : Nat) (nw1 rw1 rs1 : Nat → Int) (dp1 : Int), z < k → y ≤ 16807 → z ≤ 16807 → Nat.gcd y z = Nat.gcd T B → RR E mX7_likely (d + 5) 0 0 132 [(0, .ref m), (1, .int (zz ↑n)), (2, .int (zz w)), (3, .int (zz ↑B)), (4, .int (zz ↑T)), (5, .int (zz ↑y)), (6, .int (zz ↑z))] [] [(m, ob 7 [.int (zz ↑np), .ref mP, .ref mW, .int (zz ↑nr), .ref mR, .ref mB, .ref mS, .int (zz ↑ac), .ref mA, .int (zz ↑ke), .ref mK, .int (zz ↑se), .ref mE, .ref mT, .int (zz ↑tl), .int (zz ↑at_), .ref mD, .int (zz ↑rp), .ref nP, .ref nW, .int (zz ↑rr), .ref nR, .ref nB, .ref mN, .ref mO, .ref mQ, .int (zz dp1), .ref mX]), (mP, aI E 21 pg), (mW, aI E 10 wn), (mR, aI E 12 ro), (mN, aI E 7 nw1), (mS, aI E 7 st), (mO, aI E 7 rw1), (mQ, aI E 49 rs1)] (fun v w1 => v = some (.int (zz (likG T B w))) ∧ ∃ (nw2 rw2 rs2 : Nat → Int) (dp2 : Int), w1 = [(m, ob 7 [.int (zz ↑np), .ref mP, .ref mW, .int (zz ↑nr), .ref mR, .ref mB, .ref mS, .int (zz ↑ac), .ref mA, .int (zz ↑ke), .ref mK, .int (zz ↑se), .ref mE, .ref mT, .int (zz ↑tl), .int (zz ↑at_), .ref mD, .int (zz ↑rp), .ref nP, .ref nW, .int (zz ↑rr), .ref nR, .ref nB, .ref mN, .ref mO, .ref mQ, .int (zz dp2), .ref mX]), (mP, aI E 21 pg), (mW, aI E 10 wn), (mR, aI E 12 ro), (mN, aI E 7 nw2), (mS, aI E 7 st), (mO, aI E 7 rw2), (mQ, aI E 49 rs2)]) := by
    intro k
    induction k with
    | zero => intro z y nw1 rw1 rs1 dp1 h1; exact absurd h1 (Nat.not_lt_zero z)
    | succ k ih =>
      intro z y nw1 rw1 rs1 dp1 h1 h2 h3 h4
      refine rr_iload 6 dX7_likely_132 rfl ?_
      refine rr_if_le 155 dX7_likely_134 (by decide) (by omega) (fun hz => ?_) (fun hz => ?_)
      · skip
        obtain rfl : z = 0 := by omega
        rw [Nat.gcd_zero_right] at h4
        subst h4
        refine rr_iload_n 2 dX7_likely_155 rfl ?_
        refine rr_if_ne 164 dX7_likely_156 (by decide) (by omega) (fun c_1 => ?_) (fun c_1 => ?_)
        · skip
          refine rr_iload_n 3 dX7_likely_164 rfl ?_
          refine rr_iload 5 dX7_likely_165 rfl ?_
          refine rr_idiv dX7_likely_167 (by omega) (by omega) ?_
          exact rr_iret dX7_likely_168 rfl rfl ⟨congrArg (fun z => some (Value.int (zz z))) (by unfold likG; rw [if_neg (by omega)]; exact (Int.natCast_ediv _ _).symm), nw1, rw1, rs1, dp1, rfl⟩
        · skip
          refine rr_iload 4 dX7_likely_159 rfl ?_
          refine rr_goto 165 dX7_likely_161 (by decide) ?_
          refine rr_iload 5 dX7_likely_165 rfl ?_
          refine rr_idiv dX7_likely_167 (by omega) (by omega) ?_
          exact rr_iret dX7_likely_168 rfl rfl ⟨congrArg (fun z => some (Value.int (zz z))) (by unfold likG; rw [if_pos (by omega)]; exact (Int.natCast_ediv _ _).symm), nw1, rw1, rs1, dp1, rfl⟩
      · skip
        refine rr_iload 5 dX7_likely_137 rfl ?_
        refine rr_iload 6 dX7_likely_139 rfl ?_
        refine rr_irem dX7_likely_141 (by omega) (by omega) ?_
        refine rr_istore (lv2 := [(0, .ref m), (1, .int (zz ↑n)), (2, .int (zz w)), (3, .int (zz ↑B)), (4, .int (zz ↑T)), (5, .int (zz ↑y)), (6, .int (zz ↑z)), (7, .int (zz (↑y % ↑z)))]) dX7_likely_142 (by decide) rfl ?_
        refine rr_iload 6 dX7_likely_144 rfl ?_
        refine rr_istore (lv2 := [(0, .ref m), (1, .int (zz ↑n)), (2, .int (zz w)), (3, .int (zz ↑B)), (4, .int (zz ↑T)), (5, .int (zz ↑z)), (6, .int (zz ↑z)), (7, .int (zz (↑y % ↑z)))]) dX7_likely_146 (by decide) rfl ?_
        refine rr_iload 7 dX7_likely_148 rfl ?_
        refine rr_istore (lv2 := [(0, .ref m), (1, .int (zz ↑n)), (2, .int (zz w)), (3, .int (zz ↑B)), (4, .int (zz ↑T)), (5, .int (zz ↑z)), (6, .int (zz (↑y % ↑z))), (7, .int (zz (↑y % ↑z)))]) dX7_likely_150 (by decide) rfl ?_
        refine rr_goto 132 dX7_likely_152 (by decide) ?_
        have hmz : y % z < z := Nat.mod_lt _ (by omega)
        refine RR.lv (lv2 := [(0, .ref m), (1, .int (zz ↑n)), (2, .int (zz w)), (3, .int (zz ↑B)), (4, .int (zz ↑T)), (5, .int (zz ↑z)), (6, .int (zz (↑y % ↑z)))]) [0, 1, 2, 3, 4, 5, 6] rfl ?_
        refine RR.eq (lv2 := [(0, .ref m), (1, .int (zz ↑n)), (2, .int (zz w)), (3, .int (zz ↑B)), (4, .int (zz ↑T)), (5, .int (zz ↑z)), (6, .int (zz ((y % z : Nat) : Int)))]) rfl (by rw [Int.natCast_emod]) rfl rfl ?_
        exact ih (y % z) z nw1 rw1 rs1 dp1 (by omega) (by omega) (by omega) (by rw [gcd_st]; exact h4)
  have lp2 : ∀ (L : Vs) (sk : Sk) (nw4 rw4 rs4 : Nat → Int) (acc : Nat), rem (tnF np kd lf qt wd) np n sk = L → STK rs4 rw4 sk → SOK np sk → SO1 sk → sk.length ≤ n + 1 → acc + smV nr np n rx ry L = T → RR E mX7_likely (d + 5) 0 0 70 [(0, .ref m), (1, .int (zz ↑n)), (2, .int (zz w)), (3, .int (zz ↑B)), (4, .int (zz ↑acc))] [] [(m, ob 7 [.int (zz ↑np), .ref mP, .ref mW, .int (zz ↑nr), .ref mR, .ref mB, .ref mS, .int (zz ↑ac), .ref mA, .int (zz ↑ke), .ref mK, .int (zz ↑se), .ref mE, .ref mT, .int (zz ↑tl), .int (zz ↑at_), .ref mD, .int (zz ↑rp), .ref nP, .ref nW, .int (zz ↑rr), .ref nR, .ref nB, .ref mN, .ref mO, .ref mQ, .int (zz ((sk.length : Int) - 1)), .ref mX]), (mP, aI E 21 pg), (mW, aI E 10 wn), (mR, aI E 12 ro), (mN, aI E 7 nw4), (mS, aI E 7 st), (mO, aI E 7 rw4), (mQ, aI E 49 rs4)] (fun v w1 => v = some (.int (zz (likG T B w))) ∧ ∃ (nw2 rw2 rs2 : Nat → Int) (dp2 : Int), w1 = [(m, ob 7 [.int (zz ↑np), .ref mP, .ref mW, .int (zz ↑nr), .ref mR, .ref mB, .ref mS, .int (zz ↑ac), .ref mA, .int (zz ↑ke), .ref mK, .int (zz ↑se), .ref mE, .ref mT, .int (zz ↑tl), .int (zz ↑at_), .ref mD, .int (zz ↑rp), .ref nP, .ref nW, .int (zz ↑rr), .ref nR, .ref nB, .ref mN, .ref mO, .ref mQ, .int (zz dp2), .ref mX]), (mP, aI E 21 pg), (mW, aI E 10 wn), (mR, aI E 12 ro), (mN, aI E 7 nw2), (mS, aI E 7 st), (mO, aI E 7 rw2), (mQ, aI E 49 rs2)]) := by
    intro L
    induction L with
    | nil =>
      intro sk nw4 rw4 rs4 acc hrm hS hO h1k hLn h5
      obtain rfl : acc = T := by rw [smV] at h5; omega
      refine rr_aload_n 0 dX7_likely_70 rfl ?_
      refine rr_iload_n 1 dX7_likely_71 rfl ?_
      refine rr_call (wr := [(mR, aI E 12 ro), (mS, aI E 7 st)]) (call_V (q0 := 0) kX7_208 (c_nextRow E (d + 0) m mP mW mR mB mS mA mK mE mT mD nP nW nR nB mN mO mQ mX np nr ac ke se tl at_ rp rr pg wn nw4 kd lf qt wd hP hpc rw4 rs4 sk n (by omega) hS hO hLn) rfl rfl rfl rfl (by omega) (by decide) (Nat.le_of_ble_eq_true rfl) (Nat.le_of_ble_eq_true rfl) dX7_likely_72) [0, 1, 2, 4, 6, 7] [3, 5] rfl rfl rfl rfl rfl (Nat.zero_le _) (Nat.zero_le _) (fun v w1 hp1 => ?_)
      cases hnx : nxR (tnF np kd lf qt wd) np n sk with
      | none =>
        rw [hnx] at hp1
        obtain ⟨rfl, nw2, rfl⟩ := hp1
        refine RR.eq (st2 := [.int (zz 0)]) (ws2 := [(mR, aI E 12 ro), (mS, aI E 7 st), (m, ob 7 [.int (zz ↑np), .ref mP, .ref mW, .int (zz ↑nr), .ref mR, .ref mB, .ref mS, .int (zz ↑ac), .ref mA, .int (zz ↑ke), .ref mK, .int (zz ↑se), .ref mE, .ref mT, .int (zz ↑tl), .int (zz ↑at_), .ref mD, .int (zz ↑rp), .ref nP, .ref nW, .int (zz ↑rr), .ref nR, .ref nB, .ref mN, .ref mO, .ref mQ, .int (zz (-1)), .ref mX]), (mP, aI E 21 pg), (mW, aI E 10 wn), (mN, aI E 7 nw2), (mO, aI E 7 rw4), (mQ, aI E 49 rs4)]) rfl rfl rfl rfl ?_
        refine RR.ws (ws2 := [(m, ob 7 [.int (zz ↑np), .ref mP, .ref mW, .int (zz ↑nr), .ref mR, .ref mB, .ref mS, .int (zz ↑ac), .ref mA, .int (zz ↑ke), .ref mK, .int (zz ↑se), .ref mE, .ref mT, .int (zz ↑tl), .int (zz ↑at_), .ref mD, .int (zz ↑rp), .ref nP, .ref nW, .int (zz ↑rr), .ref nR, .ref nB, .ref mN, .ref mO, .ref mQ, .int (zz (-1)), .ref mX]), (mP, aI E 21 pg), (mW, aI E 10 wn), (mR, aI E 12 ro), (mN, aI E 7 nw2), (mS, aI E 7 st), (mO, aI E 7 rw4), (mQ, aI E 49 rs4)]) [2, 3, 4, 0, 5, 1, 6, 7] rfl rfl ?_
        refine rr_if_eq 125 dX7_likely_75 (by decide) (by omega) (fun c_2 => ?_) (fun c_2 => ?_)
        · skip
          refine rr_iload 4 dX7_likely_125 rfl ?_
          refine rr_istore (lv2 := [(0, .ref m), (1, .int (zz ↑n)), (2, .int (zz w)), (3, .int (zz ↑B)), (4, .int (zz ↑acc)), (5, .int (zz ↑acc))]) dX7_likely_127 (by decide) rfl ?_
          refine rr_iload_n 3 dX7_likely_129 rfl ?_
          refine rr_istore (lv2 := [(0, .ref m), (1, .int (zz ↑n)), (2, .int (zz w)), (3, .int (zz ↑B)), (4, .int (zz ↑acc)), (5, .int (zz ↑acc)), (6, .int (zz ↑B))]) dX7_likely_130 (by decide) rfl ?_
          exact lp3 (B + 1) B acc nw2 rw4 rs4 (-1) (by omega) (by omega) (by omega) rfl
        · skip
          exfalso; omega
      | some sk2 =>
        rw [hnx] at hp1
        obtain ⟨rfl, s2, c2, rest2, nw2, rw2, rs2, rfl, hA2, hS2, rfl⟩ := hp1
        exact absurd (hrm.symm.trans (rem_some hnx)) (by intro z; cases z)
    | cons v L ih2 =>
      intro sk nw4 rw4 rs4 acc hrm hS hO h1k hLn h5
      refine rr_aload_n 0 dX7_likely_70 rfl ?_
      refine rr_iload_n 1 dX7_likely_71 rfl ?_
      refine rr_call (wr := [(mR, aI E 12 ro), (mS, aI E 7 st)]) (call_V (q0 := 0) kX7_208 (c_nextRow E (d + 0) m mP mW mR mB mS mA mK mE mT mD nP nW nR nB mN mO mQ mX np nr ac ke se tl at_ rp rr pg wn nw4 kd lf qt wd hP hpc rw4 rs4 sk n (by omega) hS hO hLn) rfl rfl rfl rfl (by omega) (by decide) (Nat.le_of_ble_eq_true rfl) (Nat.le_of_ble_eq_true rfl) dX7_likely_72) [0, 1, 2, 4, 6, 7] [3, 5] rfl rfl rfl rfl rfl (Nat.zero_le _) (Nat.zero_le _) (fun v w1 hp1 => ?_)
      cases hnx : nxR (tnF np kd lf qt wd) np n sk with
      | none =>
        rw [hnx] at hp1
        obtain ⟨rfl, nw2, rfl⟩ := hp1
        exact absurd (hrm.symm.trans (rem_none hnx)) (by intro z; cases z)
      | some sk2 =>
        rw [hnx] at hp1
        obtain ⟨rfl, s2, c2, rest2, nw2, rw2, rs2, rfl, hA2, hS2, rfl⟩ := hp1
        obtain ⟨hO2, hL2⟩ := nxR_ok hpc hO hLn hnx
        have h12 := nxR_1 h1k hnx
        have hLr : rest2.length ≤ n := by rw [List.length_cons] at hL2; omega
        have hA3 : AG 7 nw2 (amF s2) := hA2
        have ho3 : hOK s2 := (hO2 (s2, c2) List.mem_cons_self).1
        have hv3 : hV np s2 := (hO2 (s2, c2) List.mem_cons_self).2.1
        have hm3 : mOK np nw2 := hA3.ok ho3 hv3
        obtain ⟨ea3, eb3, ec3, ed3, ee3, ef3, eg3⟩ := hA3.all
        obtain ⟨na3, nb3, nc3, nd3, nf3, ng3⟩ := id hm3
        refine RR.eq (st2 := [.int (zz 1)]) (ws2 := [(mR, aI E 12 ro), (mS, aI E 7 st), (m, ob 7 [.int (zz ↑np), .ref mP, .ref mW, .int (zz ↑nr), .ref mR, .ref mB, .ref mS, .int (zz ↑ac), .ref mA, .int (zz ↑ke), .ref mK, .int (zz ↑se), .ref mE, .ref mT, .int (zz ↑tl), .int (zz ↑at_), .ref mD, .int (zz ↑rp), .ref nP, .ref nW, .int (zz ↑rr), .ref nR, .ref nB, .ref mN, .ref mO, .ref mQ, .int (zz (rest2.length : Int)), .ref mX]), (mP, aI E 21 pg), (mW, aI E 10 wn), (mN, aI E 7 nw2), (mO, aI E 7 rw2), (mQ, aI E 49 rs2)]) rfl rfl rfl rfl ?_
        refine RR.ws (ws2 := [(m, ob 7 [.int (zz ↑np), .ref mP, .ref mW, .int (zz ↑nr), .ref mR, .ref mB, .ref mS, .int (zz ↑ac), .ref mA, .int (zz ↑ke), .ref mK, .int (zz ↑se), .ref mE, .ref mT, .int (zz ↑tl), .int (zz ↑at_), .ref mD, .int (zz ↑rp), .ref nP, .ref nW, .int (zz ↑rr), .ref nR, .ref nB, .ref mN, .ref mO, .ref mQ, .int (zz (rest2.length : Int)), .ref mX]), (mP, aI E 21 pg), (mW, aI E 10 wn), (mR, aI E 12 ro), (mN, aI E 7 nw2), (mS, aI E 7 st), (mO, aI E 7 rw2), (mQ, aI E 49 rs2)]) [2, 3, 4, 0, 5, 1, 6, 7] rfl rfl ?_
        obtain ⟨hv1, hv2⟩ := List.cons.inj (hrm.symm.trans (rem_some hnx))
        subst hv1
        replace h5 : acc + ((if landF nr rx ry s2 = true then np ^ (n - rest2.length) else 0) + smV nr np n rx ry L) = T := h5
        refine rr_if_eq 125 dX7_likely_75 (by decide) (by omega) (fun c_4 => ?_) (fun c_4 => ?_)
        · skip
          exfalso; omega
        · skip
          refine rr_aload_n 0 dX7_likely_78 rfl ?_
          have hlz : laM nr ro nw2 = landF nr rx ry s2 := la_rel hRo (AG.six hA3)
          refine rr_callFi (ws2 := [(m, ob 7 [.int (zz ↑np), .ref mP, .ref mW, .int (zz ↑nr), .ref mR, .ref mB, .ref mS, .int (zz ↑ac), .ref mA, .int (zz ↑ke), .ref mK, .int (zz ↑se), .ref mE, .ref mT, .int (zz ↑tl), .int (zz ↑at_), .ref mD, .int (zz ↑rp), .ref nP, .ref nW, .int (zz ↑rr), .ref nR, .ref nB, .ref mN, .ref mO, .ref mQ, .int (zz (rest2.length : Int)), .ref mX]), (mP, aI E 21 pg), (mW, aI E 10 wn), (mR, aI E 12 ro), (mN, aI E 7 nw2), (mS, aI E 7 st), (mO, aI E 7 rw2), (mQ, aI E 49 rs2)]) (wr := [(mP, aI E 21 pg), (mW, aI E 10 wn), (mS, aI E 7 st), (mO, aI E 7 rw2), (mQ, aI E 49 rs2)]) (call_V (q0 := 0) kX7_196 (c_MhasLanded E (d + 3) m mP mW mR mB mS mA mK mE mT mD nP nW nR nB mN mO mQ mX np nr ac ke se tl at_ rp rr (rest2.length : Int) ro nw2 hr hm3) rfl rfl rfl rfl (by omega) (by decide) (Nat.le_of_ble_eq_true rfl) (Nat.le_of_ble_eq_true rfl) dX7_likely_79) [0, 3, 4] [1, 2, 5, 6, 7] [5, 0, 1, 6, 7, 2, 3, 4] rfl rfl rfl rfl rfl rfl rfl ?_
          refine rr_if_eqB 70 dX7_likely_82 (by decide) (fun hla => ?_) (fun hla => ?_)
          · skip
            refine RR.eq (lv2 := [(0, .ref m), (1, .int (zz ↑n)), (2, .int (zz w)), (3, .int (zz ↑B)), (4, .int (zz ↑acc))]) (ws2 := [(m, ob 7 [.int (zz ↑np), .ref mP, .ref mW, .int (zz ↑nr), .ref mR, .ref mB, .ref mS, .int (zz ↑ac), .ref mA, .int (zz ↑ke), .ref mK, .int (zz ↑se), .ref mE, .ref mT, .int (zz ↑tl), .int (zz ↑at_), .ref mD, .int (zz ↑rp), .ref nP, .ref nW, .int (zz ↑rr), .ref nR, .ref nB, .ref mN, .ref mO, .ref mQ, .int (zz ((((s2, c2) :: rest2 : Sk).length : Int) - 1)), .ref mX]), (mP, aI E 21 pg), (mW, aI E 10 wn), (mR, aI E 12 ro), (mN, aI E 7 nw2), (mS, aI E 7 st), (mO, aI E 7 rw2), (mQ, aI E 49 rs2)]) rfl rfl rfl (by rw [List.length_cons, Int.natCast_add]; rw [show ((rest2.length : Int) + (1 : Nat) - 1) = (rest2.length : Int) by omega]) ?_
            rw [if_neg (by rw [← hlz, hla]; decide)] at h5
            exact ih2 ((s2, c2) :: rest2) nw2 rw2 rs2 acc hv2.symm hS2 hO2 h12 hL2 (by omega)
          · skip
            refine rr_iload_n 3 dX7_likely_85 rfl ?_
            refine rr_istore (lv2 := [(0, .ref m), (1, .int (zz ↑n)), (2, .int (zz w)), (3, .int (zz ↑B)), (4, .int (zz ↑acc)), (5, .int (zz ↑B))]) dX7_likely_86 (by decide) rfl ?_
            refine rr_iconst dX7_likely_88 ?_
            refine rr_istore (lv2 := [(0, .ref m), (1, .int (zz ↑n)), (2, .int (zz w)), (3, .int (zz ↑B)), (4, .int (zz ↑acc)), (5, .int (zz ↑B)), (6, .int (zz 0))]) dX7_likely_89 (by decide) rfl ?_
            obtain ⟨q, hq⟩ : ∃ q : Nat, q = rest2.length := ⟨_, rfl⟩
            have lp4 : ∀ (k j : Nat), j + k = rest2.length → RR E mX7_likely (d + 5) 0 0 91 [(0, .ref m), (1, .int (zz ↑n)), (2, .int (zz w)), (3, .int (zz ↑B)), (4, .int (zz ↑acc)), (5, .int (zz (↑(dvF B np j)))), (6, .int (zz ↑j))] [] [(m, ob 7 [.int (zz ↑np), .ref mP, .ref mW, .int (zz ↑nr), .ref mR, .ref mB, .ref mS, .int (zz ↑ac), .ref mA, .int (zz ↑ke), .ref mK, .int (zz ↑se), .ref mE, .ref mT, .int (zz ↑tl), .int (zz ↑at_), .ref mD, .int (zz ↑rp), .ref nP, .ref nW, .int (zz ↑rr), .ref nR, .ref nB, .ref mN, .ref mO, .ref mQ, .int (zz (rest2.length : Int)), .ref mX]), (mP, aI E 21 pg), (mW, aI E 10 wn), (mR, aI E 12 ro), (mN, aI E 7 nw2), (mS, aI E 7 st), (mO, aI E 7 rw2), (mQ, aI E 49 rs2)] (fun v w1 => v = some (.int (zz (likG T B w))) ∧ ∃ (nw2 rw2 rs2 : Nat → Int) (dp2 : Int), w1 = [(m, ob 7 [.int (zz ↑np), .ref mP, .ref mW, .int (zz ↑nr), .ref mR, .ref mB, .ref mS, .int (zz ↑ac), .ref mA, .int (zz ↑ke), .ref mK, .int (zz ↑se), .ref mE, .ref mT, .int (zz ↑tl), .int (zz ↑at_), .ref mD, .int (zz ↑rp), .ref nP, .ref nW, .int (zz ↑rr), .ref nR, .ref nB, .ref mN, .ref mO, .ref mQ, .int (zz dp2), .ref mX]), (mP, aI E 21 pg), (mW, aI E 10 wn), (mR, aI E 12 ro), (mN, aI E 7 nw2), (mS, aI E 7 st), (mO, aI E 7 rw2), (mQ, aI E 49 rs2)]) := by
              intro k
              induction k with
              | zero =>
                intro j hj
                have hdv : dvF B np j = np ^ (n - rest2.length) := by rw [hB, show j = rest2.length by omega]; exact dvF_p hnp (by omega)
                refine rr_iload 6 dX7_likely_91 rfl ?_
                refine rr_aload_n 0 dX7_likely_93 rfl ?_
                refine rr_get fX7_199 0 rfl rfl dX7_likely_94 ?_
                refine rr_icmp_ge 115 dX7_likely_97 (by decide) (by omega) (by omega) (fun c_5 => ?_) (fun c_5 => ?_)
                · skip
                  refine rr_iload 4 dX7_likely_115 rfl ?_
                  refine rr_iload 5 dX7_likely_117 rfl ?_
                  refine rr_iadd dX7_likely_119 ?_
                  refine rr_istore (lv2 := [(0, .ref m), (1, .int (zz ↑n)), (2, .int (zz w)), (3, .int (zz ↑B)), (4, .int (zz (↑acc + (↑(dvF B np j))))), (5, .int (zz (↑(dvF B np j)))), (6, .int (zz ↑j))]) dX7_likely_120 (by decide) rfl ?_
                  refine rr_goto 70 dX7_likely_122 (by decide) ?_
                  refine RR.lv (lv2 := [(0, .ref m), (1, .int (zz ↑n)), (2, .int (zz w)), (3, .int (zz ↑B)), (4, .int (zz (↑acc + (↑(dvF B np j)))))]) [0, 1, 2, 3, 4] rfl ?_
                  refine RR.eq (lv2 := [(0, .ref m), (1, .int (zz ↑n)), (2, .int (zz w)), (3, .int (zz ↑B)), (4, .int (zz (↑(acc + np ^ (n - rest2.length)))))]) (ws2 := [(m, ob 7 [.int (zz ↑np), .ref mP, .ref mW, .int (zz ↑nr), .ref mR, .ref mB, .ref mS, .int (zz ↑ac), .ref mA, .int (zz ↑ke), .ref mK, .int (zz ↑se), .ref mE, .ref mT, .int (zz ↑tl), .int (zz ↑at_), .ref mD, .int (zz ↑rp), .ref nP, .ref nW, .int (zz ↑rr), .ref nR, .ref nB, .ref mN, .ref mO, .ref mQ, .int (zz ((((s2, c2) :: rest2 : Sk).length : Int) - 1)), .ref mX]), (mP, aI E 21 pg), (mW, aI E 10 wn), (mR, aI E 12 ro), (mN, aI E 7 nw2), (mS, aI E 7 st), (mO, aI E 7 rw2), (mQ, aI E 49 rs2)]) rfl (by rw [hdv]; rfl) rfl (by rw [List.length_cons, Int.natCast_add]; rw [show ((rest2.length : Int) + (1 : Nat) - 1) = (rest2.length : Int) by omega]) ?_
                  rw [if_pos (hlz.symm.trans hla)] at h5
                  exact ih2 ((s2, c2) :: rest2) nw2 rw2 rs2 (acc + np ^ (n - rest2.length)) hv2.symm hS2 hO2 h12 hL2 (by omega)
                · skip
                  exfalso; omega
              | succ k ih4 =>
                intro j hj
                have hdl := dvF_le B np j
                refine rr_iload 6 dX7_likely_91 rfl ?_
                refine rr_aload_n 0 dX7_likely_93 rfl ?_
                refine rr_get fX7_199 0 rfl rfl dX7_likely_94 ?_
                refine rr_icmp_ge 115 dX7_likely_97 (by decide) (by omega) (by omega) (fun c_6 => ?_) (fun c_6 => ?_)
                · skip
                  exfalso; omega
                · skip
                  refine rr_iload 5 dX7_likely_100 rfl ?_
                  refine rr_aload_n 0 dX7_likely_102 rfl ?_
                  refine rr_get fX7_85 0 rfl rfl dX7_likely_103 ?_
                  refine rr_idiv dX7_likely_106 (by omega) (by omega) ?_
                  refine rr_top (b := ↑(dvF B np (j + 1))) (dvF_s B np j) ?_
                  refine rr_istore (lv2 := [(0, .ref m), (1, .int (zz ↑n)), (2, .int (zz w)), (3, .int (zz ↑B)), (4, .int (zz ↑acc)), (5, .int (zz (↑(dvF B np (j + 1))))), (6, .int (zz ↑j))]) dX7_likely_107 (by decide) rfl ?_
                  refine rr_iinc (lv2 := [(0, .ref m), (1, .int (zz ↑n)), (2, .int (zz w)), (3, .int (zz ↑B)), (4, .int (zz ↑acc)), (5, .int (zz (↑(dvF B np (j + 1))))), (6, .int (zz (↑(j + 1))))]) 6 dX7_likely_109 rfl (by decide) rfl ?_
                  refine rr_goto 91 dX7_likely_112 (by decide) ?_
                  exact ih4 (j + 1) (by omega)
            refine RR.eq (lv2 := [(0, .ref m), (1, .int (zz ↑n)), (2, .int (zz w)), (3, .int (zz ↑B)), (4, .int (zz ↑acc)), (5, .int (zz (↑(dvF B np 0)))), (6, .int (zz ↑0))]) rfl (by rw [show dvF B np 0 = B from Nat.div_one B]) rfl rfl ?_
            exact lp4 rest2.length 0 (by omega)
  have lp : ∀ (f k : Nat), k + f = n → RR E mX7_likely (d + 5) 0 0 25 [(0, .ref m), (1, .int (zz ↑n)), (2, .int (zz w)), (3, .int (zz ((np ^ k : Nat) : Int))), (4, .int (zz ↑k))] [] [(m, ob 7 [.int (zz ↑np), .ref mP, .ref mW, .int (zz ↑nr), .ref mR, .ref mB, .ref mS, .int (zz ↑ac), .ref mA, .int (zz ↑ke), .ref mK, .int (zz ↑se), .ref mE, .ref mT, .int (zz ↑tl), .int (zz ↑at_), .ref mD, .int (zz ↑rp), .ref nP, .ref nW, .int (zz ↑rr), .ref nR, .ref nB, .ref mN, .ref mO, .ref mQ, .int (zz dp), .ref mX]), (mP, aI E 21 pg), (mW, aI E 10 wn), (mR, aI E 12 ro), (mN, aI E 7 nw), (mS, aI E 7 st), (mO, aI E 7 rw), (mQ, aI E 49 rs)] (fun v w1 => v = some (.int (zz (likG T B w))) ∧ ∃ (nw2 rw2 rs2 : Nat → Int) (dp2 : Int), w1 = [(m, ob 7 [.int (zz ↑np), .ref mP, .ref mW, .int (zz ↑nr), .ref mR, .ref mB, .ref mS, .int (zz ↑ac), .ref mA, .int (zz ↑ke), .ref mK, .int (zz ↑se), .ref mE, .ref mT, .int (zz ↑tl), .int (zz ↑at_), .ref mD, .int (zz ↑rp), .ref nP, .ref nW, .int (zz ↑rr), .ref nR, .ref nB, .ref mN, .ref mO, .ref mQ, .int (zz dp2), .ref mX]), (mP, aI E 21 pg), (mW, aI E 10 wn), (mR, aI E 12 ro), (mN, aI E 7 nw2), (mS, aI E 7 st), (mO, aI E 7 rw2), (mQ, aI E 49 rs2)]) := by
    intro f
    induction f with
    | zero =>
      intro k hk
      obtain rfl : k = n := by omega
      have hlz0 : laM nr ro (cpI nw 0 st 0 7) = landF nr rx ry h := la_rel hRo (cp7 hA).six
      refine RR.eq (lv2 := [(0, .ref m), (1, .int (zz ↑k)), (2, .int (zz w)), (3, .int (zz ↑B)), (4, .int (zz ↑k))]) rfl (by rw [hB]) rfl rfl ?_
      refine rr_iload 4 dX7_likely_25 rfl ?_
      refine rr_iload_n 1 dX7_likely_27 rfl ?_
      refine rr_icmp_ge 44 dX7_likely_28 (by decide) (by omega) (by omega) (fun c_7 => ?_) (fun c_7 => ?_)
      · skip
        refine rr_aload_n 0 dX7_likely_44 rfl ?_
        refine rr_aload_n 0 dX7_likely_45 rfl ?_
        refine rr_get fX7_22 0 rfl rfl dX7_likely_46 ?_
        have ke_8 : cpI nw 0 st 0 7 0 = st 0 := rfl
        have ke_9 : cpI nw 0 st 0 7 1 = st 1 := rfl
        have ke_10 : cpI nw 0 st 0 7 2 = st 2 := rfl
        have ke_11 : cpI nw 0 st 0 7 3 = st 3 := rfl
        have ke_12 : cpI nw 0 st 0 7 4 = st 4 := rfl
        have ke_13 : cpI nw 0 st 0 7 5 = st 5 := rfl
        have ke_14 : cpI nw 0 st 0 7 6 = st 6 := rfl
        have hA15 : AG 7 (cpI nw 0 st 0 7) (amF h) := cp7 hA
        have ho15 : hOK h := ho
        have hv15 : hV np h := hv
        have hm15 : mOK np (cpI nw 0 st 0 7) := hA15.ok ho15 hv15
        obtain ⟨ea15, eb15, ec15, ed15, ee15, ef15, eg15⟩ := hA15.all
        obtain ⟨na15, nb15, nc15, nd15, nf15, ng15⟩ := id hm15
        refine rr_callFv (ws2 := [(m, ob 7 [.int (zz ↑np), .ref mP, .ref mW, .int (zz ↑nr), .ref mR, .ref mB, .ref mS, .int (zz ↑ac), .ref mA, .int (zz ↑ke), .ref mK, .int (zz ↑se), .ref mE, .ref mT, .int (zz ↑tl), .int (zz ↑at_), .ref mD, .int (zz ↑rp), .ref nP, .ref nW, .int (zz ↑rr), .ref nR, .ref nB, .ref mN, .ref mO, .ref mQ, .int (zz dp), .ref mX]), (mP, aI E 21 pg), (mW, aI E 10 wn), (mR, aI E 12 ro), (mN, aI E 7 (cpI nw 0 st 0 7)), (mS, aI E 7 st), (mO, aI E 7 rw), (mQ, aI E 49 rs)]) (wr := [(mP, aI E 21 pg), (mW, aI E 10 wn), (mR, aI E 12 ro), (mO, aI E 7 rw), (mQ, aI E 49 rs)]) (call_V (q0 := 0) kX7_180 (c_from E (d + 3) m mP mW mR mB mS mA mK mE mT mD nP nW nR nB mN mO mQ mX np nr ac ke se tl at_ rp rr dp mS nw st) rfl rfl rfl rfl (by omega) (by decide) (Nat.le_of_ble_eq_true rfl) (Nat.le_of_ble_eq_true rfl) dX7_likely_49) [0, 4, 5] [1, 2, 3, 6, 7] [5, 0, 1, 2, 6, 7, 3, 4] rfl rfl rfl rfl rfl rfl rfl ?_
        refine rr_aload_n 0 dX7_likely_52 rfl ?_
        have hlz : laM nr ro (cpI nw 0 st 0 7) = landF nr rx ry h := la_rel hRo (AG.six hA15)
        refine rr_callFi (ws2 := [(m, ob 7 [.int (zz ↑np), .ref mP, .ref mW, .int (zz ↑nr), .ref mR, .ref mB, .ref mS, .int (zz ↑ac), .ref mA, .int (zz ↑ke), .ref mK, .int (zz ↑se), .ref mE, .ref mT, .int (zz ↑tl), .int (zz ↑at_), .ref mD, .int (zz ↑rp), .ref nP, .ref nW, .int (zz ↑rr), .ref nR, .ref nB, .ref mN, .ref mO, .ref mQ, .int (zz dp), .ref mX]), (mP, aI E 21 pg), (mW, aI E 10 wn), (mR, aI E 12 ro), (mN, aI E 7 (cpI nw 0 st 0 7)), (mS, aI E 7 st), (mO, aI E 7 rw), (mQ, aI E 49 rs)]) (wr := [(mP, aI E 21 pg), (mW, aI E 10 wn), (mS, aI E 7 st), (mO, aI E 7 rw), (mQ, aI E 49 rs)]) (call_V (q0 := 0) kX7_196 (c_MhasLanded E (d + 3) m mP mW mR mB mS mA mK mE mT mD nP nW nR nB mN mO mQ mX np nr ac ke se tl at_ rp rr dp ro (cpI nw 0 st 0 7) hr hm15) rfl rfl rfl rfl (by omega) (by decide) (Nat.le_of_ble_eq_true rfl) (Nat.le_of_ble_eq_true rfl) dX7_likely_53) [0, 3, 4] [1, 2, 5, 6, 7] [5, 0, 1, 6, 7, 2, 3, 4] rfl rfl rfl rfl rfl rfl rfl ?_
        refine rr_if_eqB 63 dX7_likely_56 (by decide) (fun hl0 => ?_) (fun hl0 => ?_)
        · skip
          refine rr_iconst dX7_likely_63 ?_
          have e0 : 0 = (((if landF nr rx ry h then B else 0) : Nat) : Int) := by rw [if_neg (by rw [← hlz0, hl0]; decide)]; rfl
          refine RR.eq (lv2 := [(0, .ref m), (1, .int (zz ↑k)), (2, .int (zz w)), (3, .int (zz ↑B)), (4, .int (zz ↑k))]) (st2 := [.int (zz (((if landF nr rx ry h then B else 0) : Nat) : Int))]) rfl rfl (by rw [e0]) rfl ?_
          refine rr_istore (lv2 := [(0, .ref m), (1, .int (zz ↑k)), (2, .int (zz w)), (3, .int (zz ↑B)), (4, .int (zz (((if landF nr rx ry h then B else 0) : Nat) : Int)))]) dX7_likely_64 (by decide) rfl ?_
          refine rr_aload_n 0 dX7_likely_66 rfl ?_
          refine rr_call (wr := [(mP, aI E 21 pg), (mW, aI E 10 wn), (mR, aI E 12 ro)]) (call_V (q0 := 0) kX7_205 (c_beginsRows E (d + 2) m mP mW mR mB mS mA mK mE mT mD nP nW nR nB mN mO mQ mX np nr ac ke se tl at_ rp rr dp pg wn ro (cpI nw 0 st 0 7) st kd lf qt wd rx ry h hP hpc hRo hrc hA ho hv rw rs) rfl rfl rfl rfl (by omega) (by decide) (Nat.le_of_ble_eq_true rfl) (Nat.le_of_ble_eq_true rfl) dX7_likely_67) [0, 4, 5, 6, 7] [1, 2, 3] rfl rfl rfl rfl rfl (Nat.zero_le _) (Nat.zero_le _) (fun v w1 hp1 => ?_)
          obtain ⟨rfl, nw3, rw3, rs3, hS3, rfl⟩ := hp1
          refine RR.eq (st2 := []) (ws2 := [(mP, aI E 21 pg), (mW, aI E 10 wn), (mR, aI E 12 ro), (m, ob 7 [.int (zz ↑np), .ref mP, .ref mW, .int (zz ↑nr), .ref mR, .ref mB, .ref mS, .int (zz ↑ac), .ref mA, .int (zz ↑ke), .ref mK, .int (zz ↑se), .ref mE, .ref mT, .int (zz ↑tl), .int (zz ↑at_), .ref mD, .int (zz ↑rp), .ref nP, .ref nW, .int (zz ↑rr), .ref nR, .ref nB, .ref mN, .ref mO, .ref mQ, .int (zz 0), .ref mX]), (mN, aI E 7 nw3), (mS, aI E 7 st), (mO, aI E 7 rw3), (mQ, aI E 49 rs3)]) rfl rfl rfl rfl ?_
          refine RR.ws (ws2 := [(m, ob 7 [.int (zz ↑np), .ref mP, .ref mW, .int (zz ↑nr), .ref mR, .ref mB, .ref mS, .int (zz ↑ac), .ref mA, .int (zz ↑ke), .ref mK, .int (zz ↑se), .ref mE, .ref mT, .int (zz ↑tl), .int (zz ↑at_), .ref mD, .int (zz ↑rp), .ref nP, .ref nW, .int (zz ↑rr), .ref nR, .ref nB, .ref mN, .ref mO, .ref mQ, .int (zz 0), .ref mX]), (mP, aI E 21 pg), (mW, aI E 10 wn), (mR, aI E 12 ro), (mN, aI E 7 nw3), (mS, aI E 7 st), (mO, aI E 7 rw3), (mQ, aI E 49 rs3)]) [3, 0, 1, 2, 4, 5, 6, 7] rfl rfl ?_
          exact lp2 _ [(h, 0)] nw3 rw3 rs3 (if landF nr rx ry h then B else 0) rfl hS3 (SOK_one ho hv) (fun q hq => absurd hq (by intro z; cases z)) (by show 1 ≤ k + 1; omega) (by rw [rem_one, hT, hB])
        · skip
          refine rr_iload_n 3 dX7_likely_59 rfl ?_
          refine rr_goto 64 dX7_likely_60 (by decide) ?_
          have e0 : ↑B = (((if landF nr rx ry h then B else 0) : Nat) : Int) := by rw [if_pos (hlz0.symm.trans hl0)]
          refine RR.eq (lv2 := [(0, .ref m), (1, .int (zz ↑k)), (2, .int (zz w)), (3, .int (zz ↑B)), (4, .int (zz ↑k))]) (st2 := [.int (zz (((if landF nr rx ry h then B else 0) : Nat) : Int))]) rfl rfl (by rw [e0]) rfl ?_
          refine rr_istore (lv2 := [(0, .ref m), (1, .int (zz ↑k)), (2, .int (zz w)), (3, .int (zz ↑B)), (4, .int (zz (((if landF nr rx ry h then B else 0) : Nat) : Int)))]) dX7_likely_64 (by decide) rfl ?_
          refine rr_aload_n 0 dX7_likely_66 rfl ?_
          refine rr_call (wr := [(mP, aI E 21 pg), (mW, aI E 10 wn), (mR, aI E 12 ro)]) (call_V (q0 := 0) kX7_205 (c_beginsRows E (d + 2) m mP mW mR mB mS mA mK mE mT mD nP nW nR nB mN mO mQ mX np nr ac ke se tl at_ rp rr dp pg wn ro (cpI nw 0 st 0 7) st kd lf qt wd rx ry h hP hpc hRo hrc hA ho hv rw rs) rfl rfl rfl rfl (by omega) (by decide) (Nat.le_of_ble_eq_true rfl) (Nat.le_of_ble_eq_true rfl) dX7_likely_67) [0, 4, 5, 6, 7] [1, 2, 3] rfl rfl rfl rfl rfl (Nat.zero_le _) (Nat.zero_le _) (fun v w1 hp1 => ?_)
          obtain ⟨rfl, nw3, rw3, rs3, hS3, rfl⟩ := hp1
          refine RR.eq (st2 := []) (ws2 := [(mP, aI E 21 pg), (mW, aI E 10 wn), (mR, aI E 12 ro), (m, ob 7 [.int (zz ↑np), .ref mP, .ref mW, .int (zz ↑nr), .ref mR, .ref mB, .ref mS, .int (zz ↑ac), .ref mA, .int (zz ↑ke), .ref mK, .int (zz ↑se), .ref mE, .ref mT, .int (zz ↑tl), .int (zz ↑at_), .ref mD, .int (zz ↑rp), .ref nP, .ref nW, .int (zz ↑rr), .ref nR, .ref nB, .ref mN, .ref mO, .ref mQ, .int (zz 0), .ref mX]), (mN, aI E 7 nw3), (mS, aI E 7 st), (mO, aI E 7 rw3), (mQ, aI E 49 rs3)]) rfl rfl rfl rfl ?_
          refine RR.ws (ws2 := [(m, ob 7 [.int (zz ↑np), .ref mP, .ref mW, .int (zz ↑nr), .ref mR, .ref mB, .ref mS, .int (zz ↑ac), .ref mA, .int (zz ↑ke), .ref mK, .int (zz ↑se), .ref mE, .ref mT, .int (zz ↑tl), .int (zz ↑at_), .ref mD, .int (zz ↑rp), .ref nP, .ref nW, .int (zz ↑rr), .ref nR, .ref nB, .ref mN, .ref mO, .ref mQ, .int (zz 0), .ref mX]), (mP, aI E 21 pg), (mW, aI E 10 wn), (mR, aI E 12 ro), (mN, aI E 7 nw3), (mS, aI E 7 st), (mO, aI E 7 rw3), (mQ, aI E 49 rs3)]) [3, 0, 1, 2, 4, 5, 6, 7] rfl rfl ?_
          exact lp2 _ [(h, 0)] nw3 rw3 rs3 (if landF nr rx ry h then B else 0) rfl hS3 (SOK_one ho hv) (fun q hq => absurd hq (by intro z; cases z)) (by show 1 ≤ k + 1; omega) (by rw [rem_one, hT, hB])
      · skip
        exfalso; omega
    | succ f ih =>
      intro k hk
      refine rr_iload 4 dX7_likely_25 rfl ?_
      refine rr_iload_n 1 dX7_likely_27 rfl ?_
      refine rr_icmp_ge 44 dX7_likely_28 (by decide) (by omega) (by omega) (fun c_16 => ?_) (fun c_16 => ?_)
      · skip
        exfalso; omega
      · skip
        refine rr_iload_n 3 dX7_likely_31 rfl ?_
        refine rr_aload_n 0 dX7_likely_32 rfl ?_
        refine rr_get fX7_85 0 rfl rfl dX7_likely_33 ?_
        refine rr_imul dX7_likely_36 ?_
        refine rr_top (b := ((np ^ (k + 1) : Nat) : Int)) (by rw [Nat.pow_succ, Int.natCast_mul]) ?_
        refine rr_istore_n (lv2 := [(0, .ref m), (1, .int (zz ↑n)), (2, .int (zz w)), (3, .int (zz ((np ^ (k + 1) : Nat) : Int))), (4, .int (zz ↑k))]) dX7_likely_37 (by decide) rfl ?_
        refine rr_iinc (lv2 := [(0, .ref m), (1, .int (zz ↑n)), (2, .int (zz w)), (3, .int (zz ((np ^ (k + 1) : Nat) : Int))), (4, .int (zz (↑(k + 1))))]) 4 dX7_likely_38 rfl (by decide) rfl ?_
        refine rr_goto 25 dX7_likely_41 (by decide) ?_
        exact ih (k + 1) (by omega)
  refine rr_iload_n 1 dX7_likely_0 rfl ?_
  refine rr_iconst dX7_likely_1 ?_
  refine rr_iconst dX7_likely_2 ?_
  refine rr_callFi (ws2 := [(m, ob 7 [.int (zz ↑np), .ref mP, .ref mW, .int (zz ↑nr), .ref mR, .ref mB, .ref mS, .int (zz ↑ac), .ref mA, .int (zz ↑ke), .ref mK, .int (zz ↑se), .ref mE, .ref mT, .int (zz ↑tl), .int (zz ↑at_), .ref mD, .int (zz ↑rp), .ref nP, .ref nW, .int (zz ↑rr), .ref nR, .ref nB, .ref mN, .ref mO, .ref mQ, .int (zz dp), .ref mX]), (mP, aI E 21 pg), (mW, aI E 10 wn), (mR, aI E 12 ro), (mN, aI E 7 nw), (mS, aI E 7 st), (mO, aI E 7 rw), (mQ, aI E 49 rs)]) (wr := [(m, ob 7 [.int (zz ↑np), .ref mP, .ref mW, .int (zz ↑nr), .ref mR, .ref mB, .ref mS, .int (zz ↑ac), .ref mA, .int (zz ↑ke), .ref mK, .int (zz ↑se), .ref mE, .ref mT, .int (zz ↑tl), .int (zz ↑at_), .ref mD, .int (zz ↑rp), .ref nP, .ref nW, .int (zz ↑rr), .ref nR, .ref nB, .ref mN, .ref mO, .ref mQ, .int (zz dp), .ref mX]), (mP, aI E 21 pg), (mW, aI E 10 wn), (mR, aI E 12 ro), (mN, aI E 7 nw), (mS, aI E 7 st), (mO, aI E 7 rw), (mQ, aI E 49 rs)]) (call_S kX7_88 (c_in E (d + 4) ↑n 0 5 (by omega) (by omega) (by omega)) rfl (by omega) (by decide) (Nat.le_of_ble_eq_true rfl) (Nat.le_of_ble_eq_true rfl) dX7_likely_3) [] [0, 1, 2, 3, 4, 5, 6, 7] [0, 1, 2, 3, 4, 5, 6, 7] rfl rfl rfl rfl rfl rfl rfl ?_
  refine rr_if_eqD 18 dX7_likely_6 (by decide) (fun c_17 => ?_) (fun c_17 => ?_)
  · skip
    exfalso; omega
  · skip
    refine rr_iload_n 2 dX7_likely_9 rfl ?_
    refine rr_iconst dX7_likely_10 ?_
    refine rr_iconst dX7_likely_11 ?_
    refine rr_callFi (ws2 := [(m, ob 7 [.int (zz ↑np), .ref mP, .ref mW, .int (zz ↑nr), .ref mR, .ref mB, .ref mS, .int (zz ↑ac), .ref mA, .int (zz ↑ke), .ref mK, .int (zz ↑se), .ref mE, .ref mT, .int (zz ↑tl), .int (zz ↑at_), .ref mD, .int (zz ↑rp), .ref nP, .ref nW, .int (zz ↑rr), .ref nR, .ref nB, .ref mN, .ref mO, .ref mQ, .int (zz dp), .ref mX]), (mP, aI E 21 pg), (mW, aI E 10 wn), (mR, aI E 12 ro), (mN, aI E 7 nw), (mS, aI E 7 st), (mO, aI E 7 rw), (mQ, aI E 49 rs)]) (wr := [(m, ob 7 [.int (zz ↑np), .ref mP, .ref mW, .int (zz ↑nr), .ref mR, .ref mB, .ref mS, .int (zz ↑ac), .ref mA, .int (zz ↑ke), .ref mK, .int (zz ↑se), .ref mE, .ref mT, .int (zz ↑tl), .int (zz ↑at_), .ref mD, .int (zz ↑rp), .ref nP, .ref nW, .int (zz ↑rr), .ref nR, .ref nB, .ref mN, .ref mO, .ref mQ, .int (zz dp), .ref mX]), (mP, aI E 21 pg), (mW, aI E 10 wn), (mR, aI E 12 ro), (mN, aI E 7 nw), (mS, aI E 7 st), (mO, aI E 7 rw), (mQ, aI E 49 rs)]) (call_S kX7_88 (c_in E (d + 4) w 0 1 (by omega) (by omega) (by omega)) rfl (by omega) (by decide) (Nat.le_of_ble_eq_true rfl) (Nat.le_of_ble_eq_true rfl) dX7_likely_12) [] [0, 1, 2, 3, 4, 5, 6, 7] [0, 1, 2, 3, 4, 5, 6, 7] rfl rfl rfl rfl rfl rfl rfl ?_
    refine rr_if_neD 20 dX7_likely_15 (by decide) (fun c_18 => ?_) (fun c_18 => ?_)
    · skip
      refine rr_iconst dX7_likely_20 ?_
      refine rr_istore_n (lv2 := [(0, .ref m), (1, .int (zz ↑n)), (2, .int (zz w)), (3, .int (zz 1))]) dX7_likely_21 (by decide) rfl ?_
      refine rr_iconst dX7_likely_22 ?_
      refine rr_istore (lv2 := [(0, .ref m), (1, .int (zz ↑n)), (2, .int (zz w)), (3, .int (zz 1)), (4, .int (zz 0))]) dX7_likely_23 (by decide) rfl ?_
      exact lp n 0 (by omega)
    · skip
      exfalso; omega
