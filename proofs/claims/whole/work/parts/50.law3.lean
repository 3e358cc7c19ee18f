set_option maxRecDepth 100000 in
set_option maxHeartbeats 1000000 in
theorem lw_seen {E : Ev} {x m i kc ks : Nat} {ws : va_W} {post : Option Value → va_W → Prop} (hL : eL E ≤ 256) (hi : i + 4 ≤ eL E) (hJ : INV E x m ws) (K : ∀ ws2 : va_W, INV E x m ws2 → RR E mL_law 20 kc ks 797 [(0, .ref (eB E)), (1, .ref x), (2, .ref m), (3, .int (zz (i : Int)))] [] ws2 post) : RR E mL_law 20 kc ks 540 [(0, .ref (eB E)), (1, .ref x), (2, .ref m), (3, .int (zz (i : Int)))] [] ws post := by
  obtain ⟨len, tx, np, kd, lf, qt, wd, nr, rx, ry, sh, h, sz, g, sz2, g2, ns, sp, sc, sv, tx2, pg, wn, ro, bg, st, was, kp, sn, cw, mw, hlen, hp, hr, hsh, hs4, hs6, hnp, ho, hv, hsz, hg, hsz2, hg2, hso, etx, epl, ero, ebg, est, ewa, ekp, esn, hC, hM, rfl⟩ := hJ
  obtain ⟨s, p, z, a, b, c, f, k, q, o, sg, nm, at_, t, pK, pL, pQ, pW, pX, pY, pS, zK, zL, zQ, zW, zX, zY, zS, np0, nr0, kd0, lf0, qt0, wd0, rx0, ry0, sh0, g0, g00, ar, ar2, u, u2, qp, qc, qv, fl, ln, mt, fr, Q, f0, lin, mts, hnm, h04, h06, hcw⟩ := hC
  obtain ⟨mP, mW, mR, mB, mS, mA, mK, mE, mT, mD, nP, nW, nR, nB, mN, mO, mQ, mX, mat, mtd, rp, rr, rpg, rwn, rro, rbg, nw, rw, rs, dp, ot, hnmM, hmw⟩ := hM
  obtain ⟨y1, g1, ey1⟩ := zz_of (eX E (i + 1))
  obtain ⟨y2, g2_, ey2⟩ := zz_of (eX E (i + 2))
  obtain ⟨y3, g3, ey3⟩ := zz_of (eX E (i + 3))
  by_cases hc : (0 ≤ y1 ∧ y1 < (np : Int)) ∧ (0 ≤ y2 ∧ y2 ≤ 3) ∧ 0 ≤ y3 ∧ y3 ≤ 36
  · skip
    by_cases hs : ns < 6
    · skip
      refine rr_aload_n 1 dL_law_540 rfl ?_
      refine rr_aload_n 0 dL_law_541 rfl ?_
      refine rr_iload_n 3 dL_law_542 rfl ?_
      refine rr_iconst dL_law_543 ?_
      refine rr_iadd dL_law_544 ?_
      refine rr_sldZ (y := y1) (i + 1) (by omega) (by omega) (by omega) ey1 dL_law_545 ?_
      refine rr_aload_n 0 dL_law_546 rfl ?_
      refine rr_iload_n 3 dL_law_547 rfl ?_
      refine rr_iconst dL_law_548 ?_
      refine rr_iadd dL_law_549 ?_
      refine rr_sldZ (y := y2) (i + 2) (by omega) (by omega) (by omega) ey2 dL_law_550 ?_
      refine rr_aload_n 0 dL_law_551 rfl ?_
      refine rr_iload_n 3 dL_law_552 rfl ?_
      refine rr_iconst dL_law_553 ?_
      refine rr_iadd dL_law_554 ?_
      refine rr_sldZ (y := y3) (i + 3) (by omega) (by omega) (by omega) ey3 dL_law_555 ?_
      refine rr_callF (wr := [(s, ob 3 [.ref sg, .ref nm, .int (zz ↑len), .int (zz ↑at_)]), (sg, aC E 200 tx), (nm, aI E 4 t), (pK, aI E 7 kd), (pL, aI E 7 lf), (pQ, aI E 7 qt), (pW, aI E 10 wd), (pX, aI E 6 rx), (pY, aI E 6 ry), (pS, hO sh), (z, ob 2 [.ref zK, .ref zL, .ref zQ, .ref zW, .ref zX, .ref zY, .ref zS, .int (zz ↑np0), .int (zz ↑nr0)]), (zK, aI E 7 kd0), (zL, aI E 7 lf0), (zQ, aI E 7 qt0), (zW, aI E 10 wd0), (zX, aI E 6 rx0), (zY, aI E 6 ry0), (zS, hO sh0), (a, hO h), (b, hO g0), (c, hO g00), (f, ob 4 [.ref ar, .int (zz ↑sz)]), (ar, aH E 8 (fun i => some (u i))), ((u 0), hO (g 0)), ((u 1), hO (g 1)), ((u 2), hO (g 2)), ((u 3), hO (g 3)), ((u 4), hO (g 4)), ((u 5), hO (g 5)), ((u 6), hO (g 6)), ((u 7), hO (g 7)), (k, ob 4 [.ref ar2, .int (zz ↑sz2)]), (ar2, aH E 2 (fun i => some (u2 i))), ((u2 0), hO (g2 0)), ((u2 1), hO (g2 1)), (o, ob 1 [.ref p, .ref fl, .ref ln, .ref mt, .int (zz ↑fr), .int (zz (↑(Q.length)))]), (fl, hO f0), (ln, aI E 8000 lin), (mt, aI E 250 mts)]) (call_V (q0 := 0) kL_88 (c_seenX_y E 18 x s p z a b c f k q o pK pL pQ pW pX pY pS np nr qp qc qv ns sp sc sv y1 y2 y3 hp.1 hc hs) rfl rfl rfl rfl (by omega) (by decide) (Nat.le_of_ble_eq_true rfl) (Nat.le_of_ble_eq_true rfl) dL_law_556) hcw (perm_idx [0, 4, 37, 38, 39, 40, 1, 2, 3, 5, 6, 7, 8, 9, 10, 11, 12, 13, 14, 15, 16, 17, 18, 19, 20, 21, 22, 23, 24, 25, 26, 27, 28, 29, 30, 31, 32, 33, 34, 35, 36, 41, 42, 43, 44] 45 rfl rfl rfl) (fun v w1 hp1 => ?_)
      obtain ⟨rfl, rfl⟩ := hp1
      refine rr_aload_n 2 dL_law_559 rfl ?_
      refine rr_aload_n 0 dL_law_560 rfl ?_
      refine rr_iload_n 3 dL_law_561 rfl ?_
      refine rr_iconst dL_law_562 ?_
      refine rr_iadd dL_law_563 ?_
      refine rr_sldZ (y := y1) (i + 1) (by omega) (by omega) (by omega) ey1 dL_law_564 ?_
      refine rr_aload_n 0 dL_law_565 rfl ?_
      refine rr_iload_n 3 dL_law_566 rfl ?_
      refine rr_iconst dL_law_567 ?_
      refine rr_iadd dL_law_568 ?_
      refine rr_sldZ (y := y2) (i + 2) (by omega) (by omega) (by omega) ey2 dL_law_569 ?_
      refine rr_aload_n 0 dL_law_570 rfl ?_
      refine rr_iload_n 3 dL_law_571 rfl ?_
      refine rr_iconst dL_law_572 ?_
      refine rr_iadd dL_law_573 ?_
      refine rr_sldZ (y := y3) (i + 3) (by omega) (by omega) (by omega) ey3 dL_law_574 ?_
      refine rr_callG (wr := [(mP, aI E 21 pg), (mW, aI E 10 wn), (mR, aI E 12 ro), (mB, aI E 7 bg), (mS, aI E 7 st), (mA, aI E 56 was), (mK, aI E 14 kp), (mT, aI E 200 tx2), (mD, aI E 4 mtd), (nP, aI E 21 rpg), (nW, aI E 10 rwn), (nR, aI E 12 rro), (nB, aI E 7 rbg), (mN, aI E 7 nw), (mO, aI E 7 rw), (mQ, aI E 49 rs), (mX, aI E 7 ot)]) (call_V (q0 := 0) kL_92 (c_Mseen_y E 17 m mP mW mR mB mS mA mK mE mT mD nP nW nR nB mN mO mQ mX np nr sz sz2 ns len mat rp rr dp sn y1 y2 y3 hp.1 hc hs) rfl rfl rfl rfl (by omega) (by decide) (Nat.le_of_ble_eq_true rfl) (Nat.le_of_ble_eq_true rfl) dL_law_575) hmw (perm_idx [0, 8, 1, 2, 3, 4, 5, 6, 7, 9, 10, 11, 12, 13, 14, 15, 16, 17, 18] 19 rfl rfl rfl) (fun v2 w2 hp2 => ?_)
      obtain ⟨rfl, rfl⟩ := hp2
      refine RR.eq (st2 := [Value.int _, Value.int _]) rfl rfl rfl rfl ?_
      refine rr_eqT 797 dL_law_578 (by decide) rfl ?_
      refine K _ (INV_mk E x m len tx np kd lf qt wd nr rx ry sh h sz g sz2 g2 (ns + 1) (updI sp ns y1) (updI sc ns y2) (updI sv ns (y3 - 18)) tx2 pg wn ro bg st was kp (updI (updI (updI sn (3 * ns) y1) (3 * ns + 1) y2) (3 * ns + 2) y3) hlen hp hr hsh hs4 hs6 hnp ho hv hsz hg hsz2 hg2 (sOK_add hso hs (by have := hp.1; omega) hc.2.1 hc.2.2) etx epl ero ebg est ewa ekp (SL_add esn) ?_ ?_)
      · exact ⟨s, p, z, a, b, c, f, k, q, o, sg, nm, at_, t, pK, pL, pQ, pW, pX, pY, pS, zK, zL, zQ, zW, zX, zY, zS, np0, nr0, kd0, lf0, qt0, wd0, rx0, ry0, sh0, g0, g00, ar, ar2, u, u2, qp, qc, qv, fl, ln, mt, fr, Q, f0, lin, mts, hnm, h04, h06, perm_idx [0, 6, 7, 8, 1, 9, 10, 11, 12, 13, 14, 15, 16, 17, 18, 19, 20, 21, 22, 23, 24, 25, 26, 27, 28, 29, 30, 31, 32, 33, 34, 35, 36, 37, 38, 39, 40, 2, 3, 4, 5, 41, 42, 43, 44] 45 rfl rfl rfl⟩
      · exact ⟨mP, mW, mR, mB, mS, mA, mK, mE, mT, mD, nP, nW, nR, nB, mN, mO, mQ, mX, mat, mtd, rp, rr, rpg, rwn, rro, rbg, nw, rw, rs, dp, ot, hnmM, perm_idx [0, 2, 3, 4, 5, 6, 7, 8, 1, 9, 10, 11, 12, 13, 14, 15, 16, 17, 18] 19 rfl rfl rfl⟩
    · skip
      have hs6_ : ns = 6 := by have := hso.1; omega
      refine rr_aload_n 1 dL_law_540 rfl ?_
      refine rr_aload_n 0 dL_law_541 rfl ?_
      refine rr_iload_n 3 dL_law_542 rfl ?_
      refine rr_iconst dL_law_543 ?_
      refine rr_iadd dL_law_544 ?_
      refine rr_sldZ (y := y1) (i + 1) (by omega) (by omega) (by omega) ey1 dL_law_545 ?_
      refine rr_aload_n 0 dL_law_546 rfl ?_
      refine rr_iload_n 3 dL_law_547 rfl ?_
      refine rr_iconst dL_law_548 ?_
      refine rr_iadd dL_law_549 ?_
      refine rr_sldZ (y := y2) (i + 2) (by omega) (by omega) (by omega) ey2 dL_law_550 ?_
      refine rr_aload_n 0 dL_law_551 rfl ?_
      refine rr_iload_n 3 dL_law_552 rfl ?_
      refine rr_iconst dL_law_553 ?_
      refine rr_iadd dL_law_554 ?_
      refine rr_sldZ (y := y3) (i + 3) (by omega) (by omega) (by omega) ey3 dL_law_555 ?_
      refine rr_callF (wr := [(s, ob 3 [.ref sg, .ref nm, .int (zz ↑len), .int (zz ↑at_)]), (sg, aC E 200 tx), (nm, aI E 4 t), (pK, aI E 7 kd), (pL, aI E 7 lf), (pQ, aI E 7 qt), (pW, aI E 10 wd), (pX, aI E 6 rx), (pY, aI E 6 ry), (pS, hO sh), (z, ob 2 [.ref zK, .ref zL, .ref zQ, .ref zW, .ref zX, .ref zY, .ref zS, .int (zz ↑np0), .int (zz ↑nr0)]), (zK, aI E 7 kd0), (zL, aI E 7 lf0), (zQ, aI E 7 qt0), (zW, aI E 10 wd0), (zX, aI E 6 rx0), (zY, aI E 6 ry0), (zS, hO sh0), (a, hO h), (b, hO g0), (c, hO g00), (f, ob 4 [.ref ar, .int (zz ↑sz)]), (ar, aH E 8 (fun i => some (u i))), ((u 0), hO (g 0)), ((u 1), hO (g 1)), ((u 2), hO (g 2)), ((u 3), hO (g 3)), ((u 4), hO (g 4)), ((u 5), hO (g 5)), ((u 6), hO (g 6)), ((u 7), hO (g 7)), (k, ob 4 [.ref ar2, .int (zz ↑sz2)]), (ar2, aH E 2 (fun i => some (u2 i))), ((u2 0), hO (g2 0)), ((u2 1), hO (g2 1)), (o, ob 1 [.ref p, .ref fl, .ref ln, .ref mt, .int (zz ↑fr), .int (zz (↑(Q.length)))]), (fl, hO f0), (ln, aI E 8000 lin), (mt, aI E 250 mts)]) (call_V (q0 := 0) kL_88 (c_seenX_full E 18 x s p z a b c f k q o pK pL pQ pW pX pY pS np nr qp qc qv ns sp sc sv y1 y2 y3 hp.1 hc hs6_) rfl rfl rfl rfl (by omega) (by decide) (Nat.le_of_ble_eq_true rfl) (Nat.le_of_ble_eq_true rfl) dL_law_556) hcw (perm_idx [0, 4, 37, 38, 39, 40, 1, 2, 3, 5, 6, 7, 8, 9, 10, 11, 12, 13, 14, 15, 16, 17, 18, 19, 20, 21, 22, 23, 24, 25, 26, 27, 28, 29, 30, 31, 32, 33, 34, 35, 36, 41, 42, 43, 44] 45 rfl rfl rfl) (fun v w1 hp1 => ?_)
      obtain ⟨rfl, rfl⟩ := hp1
      refine rr_aload_n 2 dL_law_559 rfl ?_
      refine rr_aload_n 0 dL_law_560 rfl ?_
      refine rr_iload_n 3 dL_law_561 rfl ?_
      refine rr_iconst dL_law_562 ?_
      refine rr_iadd dL_law_563 ?_
      refine rr_sldZ (y := y1) (i + 1) (by omega) (by omega) (by omega) ey1 dL_law_564 ?_
      refine rr_aload_n 0 dL_law_565 rfl ?_
      refine rr_iload_n 3 dL_law_566 rfl ?_
      refine rr_iconst dL_law_567 ?_
      refine rr_iadd dL_law_568 ?_
      refine rr_sldZ (y := y2) (i + 2) (by omega) (by omega) (by omega) ey2 dL_law_569 ?_
      refine rr_aload_n 0 dL_law_570 rfl ?_
      refine rr_iload_n 3 dL_law_571 rfl ?_
      refine rr_iconst dL_law_572 ?_
      refine rr_iadd dL_law_573 ?_
      refine rr_sldZ (y := y3) (i + 3) (by omega) (by omega) (by omega) ey3 dL_law_574 ?_
      refine rr_callG (wr := [(mP, aI E 21 pg), (mW, aI E 10 wn), (mR, aI E 12 ro), (mB, aI E 7 bg), (mS, aI E 7 st), (mA, aI E 56 was), (mK, aI E 14 kp), (mE, aI E 18 sn), (mT, aI E 200 tx2), (mD, aI E 4 mtd), (nP, aI E 21 rpg), (nW, aI E 10 rwn), (nR, aI E 12 rro), (nB, aI E 7 rbg), (mN, aI E 7 nw), (mO, aI E 7 rw), (mQ, aI E 49 rs), (mX, aI E 7 ot)]) (call_V (q0 := 0) kL_92 (c_Mseen_full E 17 m mP mW mR mB mS mA mK mE mT mD nP nW nR nB mN mO mQ mX np nr sz sz2 ns len mat rp rr dp y1 y2 y3 hp.1 hc hs6_) rfl rfl rfl rfl (by omega) (by decide) (Nat.le_of_ble_eq_true rfl) (Nat.le_of_ble_eq_true rfl) dL_law_575) hmw (perm_idx [0, 1, 2, 3, 4, 5, 6, 7, 8, 9, 10, 11, 12, 13, 14, 15, 16, 17, 18] 19 rfl rfl rfl) (fun v2 w2 hp2 => ?_)
      obtain ⟨rfl, rfl⟩ := hp2
      refine RR.eq (st2 := [Value.int _, Value.int _]) rfl rfl rfl rfl ?_
      refine rr_eqT 797 dL_law_578 (by decide) rfl ?_
      refine K _ (INV_mk E x m len tx np kd lf qt wd nr rx ry sh h sz g sz2 g2 ns sp sc sv tx2 pg wn ro bg st was kp sn hlen hp hr hsh hs4 hs6 hnp ho hv hsz hg hsz2 hg2 hso etx epl ero ebg est ewa ekp esn ?_ ?_)
      · exact ⟨s, p, z, a, b, c, f, k, q, o, sg, nm, at_, t, pK, pL, pQ, pW, pX, pY, pS, zK, zL, zQ, zW, zX, zY, zS, np0, nr0, kd0, lf0, qt0, wd0, rx0, ry0, sh0, g0, g00, ar, ar2, u, u2, qp, qc, qv, fl, ln, mt, fr, Q, f0, lin, mts, hnm, h04, h06, perm_idx [0, 6, 7, 8, 1, 9, 10, 11, 12, 13, 14, 15, 16, 17, 18, 19, 20, 21, 22, 23, 24, 25, 26, 27, 28, 29, 30, 31, 32, 33, 34, 35, 36, 37, 38, 39, 40, 2, 3, 4, 5, 41, 42, 43, 44] 45 rfl rfl rfl⟩
      · exact ⟨mP, mW, mR, mB, mS, mA, mK, mE, mT, mD, nP, nW, nR, nB, mN, mO, mQ, mX, mat, mtd, rp, rr, rpg, rwn, rro, rbg, nw, rw, rs, dp, ot, hnmM, perm_idx [0, 1, 2, 3, 4, 5, 6, 7, 8, 9, 10, 11, 12, 13, 14, 15, 16, 17, 18] 19 rfl rfl rfl⟩
  · skip
    refine rr_aload_n 1 dL_law_540 rfl ?_
    refine rr_aload_n 0 dL_law_541 rfl ?_
    refine rr_iload_n 3 dL_law_542 rfl ?_
    refine rr_iconst dL_law_543 ?_
    refine rr_iadd dL_law_544 ?_
    refine rr_sldZ (y := y1) (i + 1) (by omega) (by omega) (by omega) ey1 dL_law_545 ?_
    refine rr_aload_n 0 dL_law_546 rfl ?_
    refine rr_iload_n 3 dL_law_547 rfl ?_
    refine rr_iconst dL_law_548 ?_
    refine rr_iadd dL_law_549 ?_
    refine rr_sldZ (y := y2) (i + 2) (by omega) (by omega) (by omega) ey2 dL_law_550 ?_
    refine rr_aload_n 0 dL_law_551 rfl ?_
    refine rr_iload_n 3 dL_law_552 rfl ?_
    refine rr_iconst dL_law_553 ?_
    refine rr_iadd dL_law_554 ?_
    refine rr_sldZ (y := y3) (i + 3) (by omega) (by omega) (by omega) ey3 dL_law_555 ?_
    refine rr_callF (wr := [(s, ob 3 [.ref sg, .ref nm, .int (zz ↑len), .int (zz ↑at_)]), (sg, aC E 200 tx), (nm, aI E 4 t), (pK, aI E 7 kd), (pL, aI E 7 lf), (pQ, aI E 7 qt), (pW, aI E 10 wd), (pX, aI E 6 rx), (pY, aI E 6 ry), (pS, hO sh), (z, ob 2 [.ref zK, .ref zL, .ref zQ, .ref zW, .ref zX, .ref zY, .ref zS, .int (zz ↑np0), .int (zz ↑nr0)]), (zK, aI E 7 kd0), (zL, aI E 7 lf0), (zQ, aI E 7 qt0), (zW, aI E 10 wd0), (zX, aI E 6 rx0), (zY, aI E 6 ry0), (zS, hO sh0), (a, hO h), (b, hO g0), (c, hO g00), (f, ob 4 [.ref ar, .int (zz ↑sz)]), (ar, aH E 8 (fun i => some (u i))), ((u 0), hO (g 0)), ((u 1), hO (g 1)), ((u 2), hO (g 2)), ((u 3), hO (g 3)), ((u 4), hO (g 4)), ((u 5), hO (g 5)), ((u 6), hO (g 6)), ((u 7), hO (g 7)), (k, ob 4 [.ref ar2, .int (zz ↑sz2)]), (ar2, aH E 2 (fun i => some (u2 i))), ((u2 0), hO (g2 0)), ((u2 1), hO (g2 1)), (q, ob 5 [.ref qp, .ref qc, .ref qv, .int (zz ↑ns)]), (qp, aI E 6 sp), (qc, aI E 6 sc), (qv, aI E 6 sv), (o, ob 1 [.ref p, .ref fl, .ref ln, .ref mt, .int (zz ↑fr), .int (zz (↑(Q.length)))]), (fl, hO f0), (ln, aI E 8000 lin), (mt, aI E 250 mts)]) (call_V (q0 := 0) kL_88 (c_seen_bad E 18 x s p z a b c f k q o pK pL pQ pW pX pY pS np nr y1 y2 y3 g1 g2_ g3 hp.1 hc) rfl rfl rfl rfl (by omega) (by decide) (Nat.le_of_ble_eq_true rfl) (Nat.le_of_ble_eq_true rfl) dL_law_556) hcw (perm_idx [0, 4, 1, 2, 3, 5, 6, 7, 8, 9, 10, 11, 12, 13, 14, 15, 16, 17, 18, 19, 20, 21, 22, 23, 24, 25, 26, 27, 28, 29, 30, 31, 32, 33, 34, 35, 36, 37, 38, 39, 40, 41, 42, 43, 44] 45 rfl rfl rfl) (fun v w1 hp1 => ?_)
    obtain ⟨rfl, rfl⟩ := hp1
    refine rr_aload_n 2 dL_law_559 rfl ?_
    refine rr_aload_n 0 dL_law_560 rfl ?_
    refine rr_iload_n 3 dL_law_561 rfl ?_
    refine rr_iconst dL_law_562 ?_
    refine rr_iadd dL_law_563 ?_
    refine rr_sldZ (y := y1) (i + 1) (by omega) (by omega) (by omega) ey1 dL_law_564 ?_
    refine rr_aload_n 0 dL_law_565 rfl ?_
    refine rr_iload_n 3 dL_law_566 rfl ?_
    refine rr_iconst dL_law_567 ?_
    refine rr_iadd dL_law_568 ?_
    refine rr_sldZ (y := y2) (i + 2) (by omega) (by omega) (by omega) ey2 dL_law_569 ?_
    refine rr_aload_n 0 dL_law_570 rfl ?_
    refine rr_iload_n 3 dL_law_571 rfl ?_
    refine rr_iconst dL_law_572 ?_
    refine rr_iadd dL_law_573 ?_
    refine rr_sldZ (y := y3) (i + 3) (by omega) (by omega) (by omega) ey3 dL_law_574 ?_
    refine rr_callG (wr := [(mP, aI E 21 pg), (mW, aI E 10 wn), (mR, aI E 12 ro), (mB, aI E 7 bg), (mS, aI E 7 st), (mA, aI E 56 was), (mK, aI E 14 kp), (mE, aI E 18 sn), (mT, aI E 200 tx2), (mD, aI E 4 mtd), (nP, aI E 21 rpg), (nW, aI E 10 rwn), (nR, aI E 12 rro), (nB, aI E 7 rbg), (mN, aI E 7 nw), (mO, aI E 7 rw), (mQ, aI E 49 rs), (mX, aI E 7 ot)]) (call_V (q0 := 0) kL_92 (c_Mseen_bad E 17 m mP mW mR mB mS mA mK mE mT mD nP nW nR nB mN mO mQ mX np nr sz sz2 ns len mat rp rr dp y1 y2 y3 g1 g2_ g3 hp.1 hc) rfl rfl rfl rfl (by omega) (by decide) (Nat.le_of_ble_eq_true rfl) (Nat.le_of_ble_eq_true rfl) dL_law_575) hmw (perm_idx [0, 1, 2, 3, 4, 5, 6, 7, 8, 9, 10, 11, 12, 13, 14, 15, 16, 17, 18] 19 rfl rfl rfl) (fun v2 w2 hp2 => ?_)
    obtain ⟨rfl, rfl⟩ := hp2
    refine RR.eq (st2 := [Value.int _, Value.int _]) rfl rfl rfl rfl ?_
    refine rr_eqT 797 dL_law_578 (by decide) rfl ?_
    refine K _ (INV_mk E x m len tx np kd lf qt wd nr rx ry sh h sz g sz2 g2 ns sp sc sv tx2 pg wn ro bg st was kp sn hlen hp hr hsh hs4 hs6 hnp ho hv hsz hg hsz2 hg2 hso etx epl ero ebg est ewa ekp esn ?_ ?_)
    · exact ⟨s, p, z, a, b, c, f, k, q, o, sg, nm, at_, t, pK, pL, pQ, pW, pX, pY, pS, zK, zL, zQ, zW, zX, zY, zS, np0, nr0, kd0, lf0, qt0, wd0, rx0, ry0, sh0, g0, g00, ar, ar2, u, u2, qp, qc, qv, fl, ln, mt, fr, Q, f0, lin, mts, hnm, h04, h06, perm_idx [0, 2, 3, 4, 1, 5, 6, 7, 8, 9, 10, 11, 12, 13, 14, 15, 16, 17, 18, 19, 20, 21, 22, 23, 24, 25, 26, 27, 28, 29, 30, 31, 32, 33, 34, 35, 36, 37, 38, 39, 40, 41, 42, 43, 44] 45 rfl rfl rfl⟩
    · exact ⟨mP, mW, mR, mB, mS, mA, mK, mE, mT, mD, nP, nW, nR, nB, mN, mO, mQ, mX, mat, mtd, rp, rr, rpg, rwn, rro, rbg, nw, rw, rs, dp, ot, hnmM, perm_idx [0, 1, 2, 3, 4, 5, 6, 7, 8, 9, 10, 11, 12, 13, 14, 15, 16, 17, 18] 19 rfl rfl rfl⟩
set_option maxRecDepth 100000 in
set_option maxHeartbeats 1000000 in
theorem lw_forget {E : Ev} {x m i kc ks : Nat} {ws : va_W} {post : Option Value → va_W → Prop} (hL : eL E ≤ 256) (hi : i + 4 ≤ eL E) (hJ : INV E x m ws) (K : ∀ ws2 : va_W, INV E x m ws2 → RR E mL_law 20 kc ks 797 [(0, .ref (eB E)), (1, .ref x), (2, .ref m), (3, .int (zz (i : Int)))] [] ws2 post) : RR E mL_law 20 kc ks 583 [(0, .ref (eB E)), (1, .ref x), (2, .ref m), (3, .int (zz (i : Int)))] [] ws post := by
  obtain ⟨len, tx, np, kd, lf, qt, wd, nr, rx, ry, sh, h, sz, g, sz2, g2, ns, sp, sc, sv, tx2, pg, wn, ro, bg, st, was, kp, sn, cw, mw, hlen, hp, hr, hsh, hs4, hs6, hnp, ho, hv, hsz, hg, hsz2, hg2, hso, etx, epl, ero, ebg, est, ewa, ekp, esn, hC, hM, rfl⟩ := hJ
  obtain ⟨s, p, z, a, b, c, f, k, q, o, sg, nm, at_, t, pK, pL, pQ, pW, pX, pY, pS, zK, zL, zQ, zW, zX, zY, zS, np0, nr0, kd0, lf0, qt0, wd0, rx0, ry0, sh0, g0, g00, ar, ar2, u, u2, qp, qc, qv, fl, ln, mt, fr, Q, f0, lin, mts, hnm, h04, h06, hcw⟩ := hC
  obtain ⟨mP, mW, mR, mB, mS, mA, mK, mE, mT, mD, nP, nW, nR, nB, mN, mO, mQ, mX, mat, mtd, rp, rr, rpg, rwn, rro, rbg, nw, rw, rs, dp, ot, hnmM, hmw⟩ := hM
  refine rr_aload_n 1 dL_law_583 rfl ?_
  refine rr_callF (wr := [(s, ob 3 [.ref sg, .ref nm, .int (zz ↑len), .int (zz ↑at_)]), (sg, aC E 200 tx), (nm, aI E 4 t), (p, ob 2 [.ref pK, .ref pL, .ref pQ, .ref pW, .ref pX, .ref pY, .ref pS, .int (zz ↑np), .int (zz ↑nr)]), (pK, aI E 7 kd), (pL, aI E 7 lf), (pQ, aI E 7 qt), (pW, aI E 10 wd), (pX, aI E 6 rx), (pY, aI E 6 ry), (pS, hO sh), (z, ob 2 [.ref zK, .ref zL, .ref zQ, .ref zW, .ref zX, .ref zY, .ref zS, .int (zz ↑np0), .int (zz ↑nr0)]), (zK, aI E 7 kd0), (zL, aI E 7 lf0), (zQ, aI E 7 qt0), (zW, aI E 10 wd0), (zX, aI E 6 rx0), (zY, aI E 6 ry0), (zS, hO sh0), (a, hO h), (b, hO g0), (c, hO g00), (f, ob 4 [.ref ar, .int (zz ↑sz)]), (ar, aH E 8 (fun i => some (u i))), ((u 0), hO (g 0)), ((u 1), hO (g 1)), ((u 2), hO (g 2)), ((u 3), hO (g 3)), ((u 4), hO (g 4)), ((u 5), hO (g 5)), ((u 6), hO (g 6)), ((u 7), hO (g 7)), (k, ob 4 [.ref ar2, .int (zz ↑sz2)]), (ar2, aH E 2 (fun i => some (u2 i))), ((u2 0), hO (g2 0)), ((u2 1), hO (g2 1)), (qp, aI E 6 sp), (qc, aI E 6 sc), (qv, aI E 6 sv), (o, ob 1 [.ref p, .ref fl, .ref ln, .ref mt, .int (zz ↑fr), .int (zz (↑(Q.length)))]), (fl, hO f0), (ln, aI E 8000 lin), (mt, aI E 250 mts)]) (call_V (q0 := 0) kL_93 (c_forget E 19 x s p z a b c f k q o qp qc qv ns) rfl rfl rfl rfl (by omega) (by decide) (Nat.le_of_ble_eq_true rfl) (Nat.le_of_ble_eq_true rfl) dL_law_584) hcw (perm_idx [0, 37, 1, 2, 3, 4, 5, 6, 7, 8, 9, 10, 11, 12, 13, 14, 15, 16, 17, 18, 19, 20, 21, 22, 23, 24, 25, 26, 27, 28, 29, 30, 31, 32, 33, 34, 35, 36, 38, 39, 40, 41, 42, 43, 44] 45 rfl rfl rfl) (fun v w1 hp1 => ?_)
  obtain ⟨rfl, rfl⟩ := hp1
  refine rr_aload_n 2 dL_law_587 rfl ?_
  refine rr_callG (wr := [(mP, aI E 21 pg), (mW, aI E 10 wn), (mR, aI E 12 ro), (mB, aI E 7 bg), (mS, aI E 7 st), (mA, aI E 56 was), (mK, aI E 14 kp), (mE, aI E 18 sn), (mT, aI E 200 tx2), (mD, aI E 4 mtd), (nP, aI E 21 rpg), (nW, aI E 10 rwn), (nR, aI E 12 rro), (nB, aI E 7 rbg), (mN, aI E 7 nw), (mO, aI E 7 rw), (mQ, aI E 49 rs), (mX, aI E 7 ot)]) (call_V (q0 := 0) kL_96 (c_Mforget E 19 m mP mW mR mB mS mA mK mE mT mD nP nW nR nB mN mO mQ mX np nr sz sz2 ns len mat rp rr dp) rfl rfl rfl rfl (by omega) (by decide) (Nat.le_of_ble_eq_true rfl) (Nat.le_of_ble_eq_true rfl) dL_law_588) hmw (perm_idx [0, 1, 2, 3, 4, 5, 6, 7, 8, 9, 10, 11, 12, 13, 14, 15, 16, 17, 18] 19 rfl rfl rfl) (fun v2 w2 hp2 => ?_)
  obtain ⟨rfl, rfl⟩ := hp2
  refine RR.eq (st2 := [Value.int _, Value.int _]) rfl rfl rfl rfl ?_
  refine rr_eqT 797 dL_law_591 (by decide) rfl ?_
  refine K _ (INV_mk E x m len tx np kd lf qt wd nr rx ry sh h sz g sz2 g2 0 sp sc sv tx2 pg wn ro bg st was kp sn hlen hp hr hsh hs4 hs6 hnp ho hv hsz hg hsz2 hg2 (⟨Nat.zero_le _, fun j hj => absurd hj (Nat.not_lt_zero j)⟩) etx epl ero ebg est ewa ekp (fun j hj => absurd hj (Nat.not_lt_zero j)) ?_ ?_)
  · exact ⟨s, p, z, a, b, c, f, k, q, o, sg, nm, at_, t, pK, pL, pQ, pW, pX, pY, pS, zK, zL, zQ, zW, zX, zY, zS, np0, nr0, kd0, lf0, qt0, wd0, rx0, ry0, sh0, g0, g00, ar, ar2, u, u2, qp, qc, qv, fl, ln, mt, fr, Q, f0, lin, mts, hnm, h04, h06, perm_idx [0, 2, 3, 4, 5, 6, 7, 8, 9, 10, 11, 12, 13, 14, 15, 16, 17, 18, 19, 20, 21, 22, 23, 24, 25, 26, 27, 28, 29, 30, 31, 32, 33, 34, 35, 36, 37, 1, 38, 39, 40, 41, 42, 43, 44] 45 rfl rfl rfl⟩
  · exact ⟨mP, mW, mR, mB, mS, mA, mK, mE, mT, mD, nP, nW, nR, nB, mN, mO, mQ, mX, mat, mtd, rp, rr, rpg, rwn, rro, rbg, nw, rw, rs, dp, ot, hnmM, perm_idx [0, 1, 2, 3, 4, 5, 6, 7, 8, 9, 10, 11, 12, 13, 14, 15, 16, 17, 18] 19 rfl rfl rfl⟩
set_option maxRecDepth 100000 in
set_option maxHeartbeats 1000000 in
theorem lw_may {E : Ev} {x m i kc ks : Nat} {ws : va_W} {post : Option Value → va_W → Prop} (hL : eL E ≤ 256) (hi : i + 4 ≤ eL E) (hJ : INV E x m ws) (K : ∀ ws2 : va_W, INV E x m ws2 → RR E mL_law 20 kc ks 797 [(0, .ref (eB E)), (1, .ref x), (2, .ref m), (3, .int (zz (i : Int)))] [] ws2 post) : RR E mL_law 20 kc ks 596 [(0, .ref (eB E)), (1, .ref x), (2, .ref m), (3, .int (zz (i : Int)))] [] ws post := by
  obtain ⟨len, tx, np, kd, lf, qt, wd, nr, rx, ry, sh, h, sz, g, sz2, g2, ns, sp, sc, sv, tx2, pg, wn, ro, bg, st, was, kp, sn, cw, mw, hlen, hp, hr, hsh, hs4, hs6, hnp, ho, hv, hsz, hg, hsz2, hg2, hso, etx, epl, ero, ebg, est, ewa, ekp, esn, hC, hM, rfl⟩ := hJ
  obtain ⟨s, p, z, a, b, c, f, k, q, o, sg, nm, at_, t, pK, pL, pQ, pW, pX, pY, pS, zK, zL, zQ, zW, zX, zY, zS, np0, nr0, kd0, lf0, qt0, wd0, rx0, ry0, sh0, g0, g00, ar, ar2, u, u2, qp, qc, qv, fl, ln, mt, fr, Q, f0, lin, mts, hnm, h04, h06, hcw⟩ := hC
  obtain ⟨mP, mW, mR, mB, mS, mA, mK, mE, mT, mD, nP, nW, nR, nB, mN, mO, mQ, mX, mat, mtd, rp, rr, rpg, rwn, rro, rbg, nw, rw, rs, dp, ot, hnmM, hmw⟩ := hM
  obtain ⟨y1, g1, ey1⟩ := zz_of (eX E (i + 1))
  obtain ⟨y2, g2_, ey2⟩ := zz_of (eX E (i + 2))
  by_cases hc : (0 ≤ y1 ∧ y1 < (np : Int)) ∧ 0 ≤ y2 ∧ y2 ≤ 1
  · skip
    have hc1 := hc.1
    have hc2 := hc.2
    obtain ⟨ip, rfl⟩ : ∃ n : Nat, y1 = (n : Int) := ⟨y1.toNat, by omega⟩
    have hip : ip < np := by omega
    by_cases hw : y2 = 0
    · skip
      subst hw
      refine rr_aload_n 1 dL_law_596 rfl ?_
      refine rr_aload_n 0 dL_law_597 rfl ?_
      refine rr_iload_n 3 dL_law_598 rfl ?_
      refine rr_iconst dL_law_599 ?_
      refine rr_iadd dL_law_600 ?_
      refine rr_sldZ (y := ↑ip) (i + 1) (by omega) (by omega) (by omega) ey1 dL_law_601 ?_
      refine rr_aload_n 0 dL_law_602 rfl ?_
      refine rr_iload_n 3 dL_law_603 rfl ?_
      refine rr_iconst dL_law_604 ?_
      refine rr_iadd dL_law_605 ?_
      refine rr_sldZ (y := 0) (i + 2) (by omega) (by omega) (by omega) ey2 dL_law_606 ?_
      refine rr_callF (wr := [(s, ob 3 [.ref sg, .ref nm, .int (zz ↑len), .int (zz ↑at_)]), (sg, aC E 200 tx), (nm, aI E 4 t), (pQ, aI E 7 qt), (pW, aI E 10 wd), (pX, aI E 6 rx), (pY, aI E 6 ry), (pS, hO sh), (z, ob 2 [.ref zK, .ref zL, .ref zQ, .ref zW, .ref zX, .ref zY, .ref zS, .int (zz ↑np0), .int (zz ↑nr0)]), (zK, aI E 7 kd0), (zL, aI E 7 lf0), (zQ, aI E 7 qt0), (zW, aI E 10 wd0), (zX, aI E 6 rx0), (zY, aI E 6 ry0), (zS, hO sh0), (a, hO h), (b, hO g0), (c, hO g00), (f, ob 4 [.ref ar, .int (zz ↑sz)]), (ar, aH E 8 (fun i => some (u i))), ((u 0), hO (g 0)), ((u 1), hO (g 1)), ((u 2), hO (g 2)), ((u 3), hO (g 3)), ((u 4), hO (g 4)), ((u 5), hO (g 5)), ((u 6), hO (g 6)), ((u 7), hO (g 7)), (k, ob 4 [.ref ar2, .int (zz ↑sz2)]), (ar2, aH E 2 (fun i => some (u2 i))), ((u2 0), hO (g2 0)), ((u2 1), hO (g2 1)), (o, ob 1 [.ref p, .ref fl, .ref ln, .ref mt, .int (zz ↑fr), .int (zz (↑(Q.length)))]), (fl, hO f0), (ln, aI E 8000 lin), (mt, aI E 250 mts)]) (call_V (q0 := 0) kL_97 (c_may_0 E 17 x s p z a b c f k q o pK pL pQ pW pX pY pS np nr qp qc qv ns sp sc sv kd lf qt wd hp hso ip hip) rfl rfl rfl rfl (by omega) (by decide) (Nat.le_of_ble_eq_true rfl) (Nat.le_of_ble_eq_true rfl) dL_law_607) hcw (perm_idx [0, 4, 5, 6, 37, 38, 39, 40, 1, 2, 3, 7, 8, 9, 10, 11, 12, 13, 14, 15, 16, 17, 18, 19, 20, 21, 22, 23, 24, 25, 26, 27, 28, 29, 30, 31, 32, 33, 34, 35, 36, 41, 42, 43, 44] 45 rfl rfl rfl) (fun v w1 hp1 => ?_)
      obtain ⟨rfl, rfl⟩ := hp1
      refine rr_aload_n 2 dL_law_610 rfl ?_
      refine rr_aload_n 0 dL_law_611 rfl ?_
      refine rr_iload_n 3 dL_law_612 rfl ?_
      refine rr_iconst dL_law_613 ?_
      refine rr_iadd dL_law_614 ?_
      refine rr_sldZ (y := ↑ip) (i + 1) (by omega) (by omega) (by omega) ey1 dL_law_615 ?_
      refine rr_aload_n 0 dL_law_616 rfl ?_
      refine rr_iload_n 3 dL_law_617 rfl ?_
      refine rr_iconst dL_law_618 ?_
      refine rr_iadd dL_law_619 ?_
      refine rr_sldZ (y := 0) (i + 2) (by omega) (by omega) (by omega) ey2 dL_law_620 ?_
      refine rr_callG (wr := [(mW, aI E 10 wn), (mR, aI E 12 ro), (mB, aI E 7 bg), (mS, aI E 7 st), (mA, aI E 56 was), (mK, aI E 14 kp), (mT, aI E 200 tx2), (mD, aI E 4 mtd), (nP, aI E 21 rpg), (nW, aI E 10 rwn), (nR, aI E 12 rro), (nB, aI E 7 rbg), (mN, aI E 7 nw), (mO, aI E 7 rw), (mQ, aI E 49 rs), (mX, aI E 7 ot)]) (call_V (q0 := 0) kL_100 (c_Mmay_0 E 17 m mP mW mR mB mS mA mK mE mT mD nP nW nR nB mN mO mQ mX np nr sz sz2 ns len mat rp rr dp sn sp sc sv kd lf qt wd pg wn epl hp esn hso ip hip) rfl rfl rfl rfl (by omega) (by decide) (Nat.le_of_ble_eq_true rfl) (Nat.le_of_ble_eq_true rfl) dL_law_621) hmw (perm_idx [0, 1, 8, 2, 3, 4, 5, 6, 7, 9, 10, 11, 12, 13, 14, 15, 16, 17, 18] 19 rfl rfl rfl) (fun v2 w2 hp2 => ?_)
      obtain ⟨rfl, rfl⟩ := hp2
      refine RR.eq (st2 := [Value.int _, Value.int _]) rfl rfl rfl rfl ?_
      refine rr_eqT 797 dL_law_624 (by decide) rfl ?_
      refine K _ (INV_mk E x m len tx np kd lf qt wd nr rx ry sh h sz g sz2 g2 ns sp sc sv tx2 pg wn ro bg st was kp sn hlen hp hr hsh hs4 hs6 hnp ho hv hsz hg hsz2 hg2 hso etx epl ero ebg est ewa ekp esn ?_ ?_)
      · exact ⟨s, p, z, a, b, c, f, k, q, o, sg, nm, at_, t, pK, pL, pQ, pW, pX, pY, pS, zK, zL, zQ, zW, zX, zY, zS, np0, nr0, kd0, lf0, qt0, wd0, rx0, ry0, sh0, g0, g00, ar, ar2, u, u2, qp, qc, qv, fl, ln, mt, fr, Q, f0, lin, mts, hnm, h04, h06, perm_idx [0, 8, 9, 10, 1, 2, 3, 11, 12, 13, 14, 15, 16, 17, 18, 19, 20, 21, 22, 23, 24, 25, 26, 27, 28, 29, 30, 31, 32, 33, 34, 35, 36, 37, 38, 39, 40, 4, 5, 6, 7, 41, 42, 43, 44] 45 rfl rfl rfl⟩
      · exact ⟨mP, mW, mR, mB, mS, mA, mK, mE, mT, mD, nP, nW, nR, nB, mN, mO, mQ, mX, mat, mtd, rp, rr, rpg, rwn, rro, rbg, nw, rw, rs, dp, ot, hnmM, perm_idx [0, 1, 3, 4, 5, 6, 7, 8, 2, 9, 10, 11, 12, 13, 14, 15, 16, 17, 18] 19 rfl rfl rfl⟩
    · skip
      obtain rfl : y2 = 1 := by omega
      refine rr_aload_n 1 dL_law_596 rfl ?_
      refine rr_aload_n 0 dL_law_597 rfl ?_
      refine rr_iload_n 3 dL_law_598 rfl ?_
      refine rr_iconst dL_law_599 ?_
      refine rr_iadd dL_law_600 ?_
      refine rr_sldZ (y := ↑ip) (i + 1) (by omega) (by omega) (by omega) ey1 dL_law_601 ?_
      refine rr_aload_n 0 dL_law_602 rfl ?_
      refine rr_iload_n 3 dL_law_603 rfl ?_
      refine rr_iconst dL_law_604 ?_
      refine rr_iadd dL_law_605 ?_
      refine rr_sldZ (y := 1) (i + 2) (by omega) (by omega) (by omega) ey2 dL_law_606 ?_
      refine rr_callF (wr := [(s, ob 3 [.ref sg, .ref nm, .int (zz ↑len), .int (zz ↑at_)]), (sg, aC E 200 tx), (nm, aI E 4 t), (pQ, aI E 7 qt), (pW, aI E 10 wd), (pX, aI E 6 rx), (pY, aI E 6 ry), (pS, hO sh), (z, ob 2 [.ref zK, .ref zL, .ref zQ, .ref zW, .ref zX, .ref zY, .ref zS, .int (zz ↑np0), .int (zz ↑nr0)]), (zK, aI E 7 kd0), (zL, aI E 7 lf0), (zQ, aI E 7 qt0), (zW, aI E 10 wd0), (zX, aI E 6 rx0), (zY, aI E 6 ry0), (zS, hO sh0), (a, hO h), (b, hO g0), (c, hO g00), (f, ob 4 [.ref ar, .int (zz ↑sz)]), (ar, aH E 8 (fun i => some (u i))), ((u 0), hO (g 0)), ((u 1), hO (g 1)), ((u 2), hO (g 2)), ((u 3), hO (g 3)), ((u 4), hO (g 4)), ((u 5), hO (g 5)), ((u 6), hO (g 6)), ((u 7), hO (g 7)), (k, ob 4 [.ref ar2, .int (zz ↑sz2)]), (ar2, aH E 2 (fun i => some (u2 i))), ((u2 0), hO (g2 0)), ((u2 1), hO (g2 1)), (o, ob 1 [.ref p, .ref fl, .ref ln, .ref mt, .int (zz ↑fr), .int (zz (↑(Q.length)))]), (fl, hO f0), (ln, aI E 8000 lin), (mt, aI E 250 mts)]) (call_V (q0 := 0) kL_97 (c_may_1 E 17 x s p z a b c f k q o pK pL pQ pW pX pY pS np nr qp qc qv ns sp sc sv kd lf qt wd hp hso ip hip) rfl rfl rfl rfl (by omega) (by decide) (Nat.le_of_ble_eq_true rfl) (Nat.le_of_ble_eq_true rfl) dL_law_607) hcw (perm_idx [0, 4, 5, 6, 37, 38, 39, 40, 1, 2, 3, 7, 8, 9, 10, 11, 12, 13, 14, 15, 16, 17, 18, 19, 20, 21, 22, 23, 24, 25, 26, 27, 28, 29, 30, 31, 32, 33, 34, 35, 36, 41, 42, 43, 44] 45 rfl rfl rfl) (fun v w1 hp1 => ?_)
      obtain ⟨rfl, rfl⟩ := hp1
      refine rr_aload_n 2 dL_law_610 rfl ?_
      refine rr_aload_n 0 dL_law_611 rfl ?_
      refine rr_iload_n 3 dL_law_612 rfl ?_
      refine rr_iconst dL_law_613 ?_
      refine rr_iadd dL_law_614 ?_
      refine rr_sldZ (y := ↑ip) (i + 1) (by omega) (by omega) (by omega) ey1 dL_law_615 ?_
      refine rr_aload_n 0 dL_law_616 rfl ?_
      refine rr_iload_n 3 dL_law_617 rfl ?_
      refine rr_iconst dL_law_618 ?_
      refine rr_iadd dL_law_619 ?_
      refine rr_sldZ (y := 1) (i + 2) (by omega) (by omega) (by omega) ey2 dL_law_620 ?_
      refine rr_callG (wr := [(mW, aI E 10 wn), (mR, aI E 12 ro), (mB, aI E 7 bg), (mS, aI E 7 st), (mA, aI E 56 was), (mK, aI E 14 kp), (mT, aI E 200 tx2), (mD, aI E 4 mtd), (nP, aI E 21 rpg), (nW, aI E 10 rwn), (nR, aI E 12 rro), (nB, aI E 7 rbg), (mN, aI E 7 nw), (mO, aI E 7 rw), (mQ, aI E 49 rs), (mX, aI E 7 ot)]) (call_V (q0 := 0) kL_100 (c_Mmay_1 E 17 m mP mW mR mB mS mA mK mE mT mD nP nW nR nB mN mO mQ mX np nr sz sz2 ns len mat rp rr dp sn sp sc sv kd lf qt wd pg wn epl hp esn hso ip hip) rfl rfl rfl rfl (by omega) (by decide) (Nat.le_of_ble_eq_true rfl) (Nat.le_of_ble_eq_true rfl) dL_law_621) hmw (perm_idx [0, 1, 8, 2, 3, 4, 5, 6, 7, 9, 10, 11, 12, 13, 14, 15, 16, 17, 18] 19 rfl rfl rfl) (fun v2 w2 hp2 => ?_)
      obtain ⟨rfl, rfl⟩ := hp2
      refine RR.eq (st2 := [Value.int _, Value.int _]) rfl rfl rfl rfl ?_
      refine rr_eqT 797 dL_law_624 (by decide) rfl ?_
      refine K _ (INV_mk E x m len tx np kd lf qt wd nr rx ry sh h sz g sz2 g2 ns sp sc sv tx2 pg wn ro bg st was kp sn hlen hp hr hsh hs4 hs6 hnp ho hv hsz hg hsz2 hg2 hso etx epl ero ebg est ewa ekp esn ?_ ?_)
      · exact ⟨s, p, z, a, b, c, f, k, q, o, sg, nm, at_, t, pK, pL, pQ, pW, pX, pY, pS, zK, zL, zQ, zW, zX, zY, zS, np0, nr0, kd0, lf0, qt0, wd0, rx0, ry0, sh0, g0, g00, ar, ar2, u, u2, qp, qc, qv, fl, ln, mt, fr, Q, f0, lin, mts, hnm, h04, h06, perm_idx [0, 8, 9, 10, 1, 2, 3, 11, 12, 13, 14, 15, 16, 17, 18, 19, 20, 21, 22, 23, 24, 25, 26, 27, 28, 29, 30, 31, 32, 33, 34, 35, 36, 37, 38, 39, 40, 4, 5, 6, 7, 41, 42, 43, 44] 45 rfl rfl rfl⟩
      · exact ⟨mP, mW, mR, mB, mS, mA, mK, mE, mT, mD, nP, nW, nR, nB, mN, mO, mQ, mX, mat, mtd, rp, rr, rpg, rwn, rro, rbg, nw, rw, rs, dp, ot, hnmM, perm_idx [0, 1, 3, 4, 5, 6, 7, 8, 2, 9, 10, 11, 12, 13, 14, 15, 16, 17, 18] 19 rfl rfl rfl⟩
  · skip
    refine rr_aload_n 1 dL_law_596 rfl ?_
    refine rr_aload_n 0 dL_law_597 rfl ?_
    refine rr_iload_n 3 dL_law_598 rfl ?_
    refine rr_iconst dL_law_599 ?_
    refine rr_iadd dL_law_600 ?_
    refine rr_sldZ (y := y1) (i + 1) (by omega) (by omega) (by omega) ey1 dL_law_601 ?_
    refine rr_aload_n 0 dL_law_602 rfl ?_
    refine rr_iload_n 3 dL_law_603 rfl ?_
    refine rr_iconst dL_law_604 ?_
    refine rr_iadd dL_law_605 ?_
    refine rr_sldZ (y := y2) (i + 2) (by omega) (by omega) (by omega) ey2 dL_law_606 ?_
    refine rr_callF (wr := [(s, ob 3 [.ref sg, .ref nm, .int (zz ↑len), .int (zz ↑at_)]), (sg, aC E 200 tx), (nm, aI E 4 t), (pK, aI E 7 kd), (pL, aI E 7 lf), (pQ, aI E 7 qt), (pW, aI E 10 wd), (pX, aI E 6 rx), (pY, aI E 6 ry), (pS, hO sh), (z, ob 2 [.ref zK, .ref zL, .ref zQ, .ref zW, .ref zX, .ref zY, .ref zS, .int (zz ↑np0), .int (zz ↑nr0)]), (zK, aI E 7 kd0), (zL, aI E 7 lf0), (zQ, aI E 7 qt0), (zW, aI E 10 wd0), (zX, aI E 6 rx0), (zY, aI E 6 ry0), (zS, hO sh0), (a, hO h), (b, hO g0), (c, hO g00), (f, ob 4 [.ref ar, .int (zz ↑sz)]), (ar, aH E 8 (fun i => some (u i))), ((u 0), hO (g 0)), ((u 1), hO (g 1)), ((u 2), hO (g 2)), ((u 3), hO (g 3)), ((u 4), hO (g 4)), ((u 5), hO (g 5)), ((u 6), hO (g 6)), ((u 7), hO (g 7)), (k, ob 4 [.ref ar2, .int (zz ↑sz2)]), (ar2, aH E 2 (fun i => some (u2 i))), ((u2 0), hO (g2 0)), ((u2 1), hO (g2 1)), (q, ob 5 [.ref qp, .ref qc, .ref qv, .int (zz ↑ns)]), (qp, aI E 6 sp), (qc, aI E 6 sc), (qv, aI E 6 sv), (o, ob 1 [.ref p, .ref fl, .ref ln, .ref mt, .int (zz ↑fr), .int (zz (↑(Q.length)))]), (fl, hO f0), (ln, aI E 8000 lin), (mt, aI E 250 mts)]) (call_V (q0 := 0) kL_97 (c_may_bad E 17 x s p z a b c f k q o pK pL pQ pW pX pY pS np nr y1 y2 g1 g2_ hp.1 hc) rfl rfl rfl rfl (by omega) (by decide) (Nat.le_of_ble_eq_true rfl) (Nat.le_of_ble_eq_true rfl) dL_law_607) hcw (perm_idx [0, 4, 1, 2, 3, 5, 6, 7, 8, 9, 10, 11, 12, 13, 14, 15, 16, 17, 18, 19, 20, 21, 22, 23, 24, 25, 26, 27, 28, 29, 30, 31, 32, 33, 34, 35, 36, 37, 38, 39, 40, 41, 42, 43, 44] 45 rfl rfl rfl) (fun v w1 hp1 => ?_)
    obtain ⟨rfl, rfl⟩ := hp1
    refine rr_aload_n 2 dL_law_610 rfl ?_
    refine rr_aload_n 0 dL_law_611 rfl ?_
    refine rr_iload_n 3 dL_law_612 rfl ?_
    refine rr_iconst dL_law_613 ?_
    refine rr_iadd dL_law_614 ?_
    refine rr_sldZ (y := y1) (i + 1) (by omega) (by omega) (by omega) ey1 dL_law_615 ?_
    refine rr_aload_n 0 dL_law_616 rfl ?_
    refine rr_iload_n 3 dL_law_617 rfl ?_
    refine rr_iconst dL_law_618 ?_
    refine rr_iadd dL_law_619 ?_
    refine rr_sldZ (y := y2) (i + 2) (by omega) (by omega) (by omega) ey2 dL_law_620 ?_
    refine rr_callG (wr := [(mP, aI E 21 pg), (mW, aI E 10 wn), (mR, aI E 12 ro), (mB, aI E 7 bg), (mS, aI E 7 st), (mA, aI E 56 was), (mK, aI E 14 kp), (mE, aI E 18 sn), (mT, aI E 200 tx2), (mD, aI E 4 mtd), (nP, aI E 21 rpg), (nW, aI E 10 rwn), (nR, aI E 12 rro), (nB, aI E 7 rbg), (mN, aI E 7 nw), (mO, aI E 7 rw), (mQ, aI E 49 rs), (mX, aI E 7 ot)]) (call_V (q0 := 0) kL_100 (c_Mmay_bad E 17 m mP mW mR mB mS mA mK mE mT mD nP nW nR nB mN mO mQ mX np nr sz sz2 ns len mat rp rr dp y1 y2 g1 g2_ hp.1 hc) rfl rfl rfl rfl (by omega) (by decide) (Nat.le_of_ble_eq_true rfl) (Nat.le_of_ble_eq_true rfl) dL_law_621) hmw (perm_idx [0, 1, 2, 3, 4, 5, 6, 7, 8, 9, 10, 11, 12, 13, 14, 15, 16, 17, 18] 19 rfl rfl rfl) (fun v2 w2 hp2 => ?_)
    obtain ⟨rfl, rfl⟩ := hp2
    refine RR.eq (st2 := [Value.int _, Value.int _]) rfl rfl rfl rfl ?_
    refine rr_eqT 797 dL_law_624 (by decide) rfl ?_
    refine K _ (INV_mk E x m len tx np kd lf qt wd nr rx ry sh h sz g sz2 g2 ns sp sc sv tx2 pg wn ro bg st was kp sn hlen hp hr hsh hs4 hs6 hnp ho hv hsz hg hsz2 hg2 hso etx epl ero ebg est ewa ekp esn ?_ ?_)
    · exact ⟨s, p, z, a, b, c, f, k, q, o, sg, nm, at_, t, pK, pL, pQ, pW, pX, pY, pS, zK, zL, zQ, zW, zX, zY, zS, np0, nr0, kd0, lf0, qt0, wd0, rx0, ry0, sh0, g0, g00, ar, ar2, u, u2, qp, qc, qv, fl, ln, mt, fr, Q, f0, lin, mts, hnm, h04, h06, perm_idx [0, 2, 3, 4, 1, 5, 6, 7, 8, 9, 10, 11, 12, 13, 14, 15, 16, 17, 18, 19, 20, 21, 22, 23, 24, 25, 26, 27, 28, 29, 30, 31, 32, 33, 34, 35, 36, 37, 38, 39, 40, 41, 42, 43, 44] 45 rfl rfl rfl⟩
    · exact ⟨mP, mW, mR, mB, mS, mA, mK, mE, mT, mD, nP, nW, nR, nB, mN, mO, mQ, mX, mat, mtd, rp, rr, rpg, rwn, rro, rbg, nw, rw, rs, dp, ot, hnmM, perm_idx [0, 1, 2, 3, 4, 5, 6, 7, 8, 9, 10, 11, 12, 13, 14, 15, 16, 17, 18] 19 rfl rfl rfl⟩
set_option maxRecDepth 100000 in
set_option maxHeartbeats 1000000 in
theorem lw_which {E : Ev} {x m i kc ks : Nat} {ws : va_W} {post : Option Value → va_W → Prop} (hL : eL E ≤ 256) (hi : i + 4 ≤ eL E) (hJ : INV E x m ws) (K : ∀ ws2 : va_W, INV E x m ws2 → RR E mL_law 20 kc ks 797 [(0, .ref (eB E)), (1, .ref x), (2, .ref m), (3, .int (zz (i : Int)))] [] ws2 post) : RR E mL_law 20 kc ks 629 [(0, .ref (eB E)), (1, .ref x), (2, .ref m), (3, .int (zz (i : Int)))] [] ws post := by
  obtain ⟨len, tx, np, kd, lf, qt, wd, nr, rx, ry, sh, h, sz, g, sz2, g2, ns, sp, sc, sv, tx2, pg, wn, ro, bg, st, was, kp, sn, cw, mw, hlen, hp, hr, hsh, hs4, hs6, hnp, ho, hv, hsz, hg, hsz2, hg2, hso, etx, epl, ero, ebg, est, ewa, ekp, esn, hC, hM, rfl⟩ := hJ
  obtain ⟨s, p, z, a, b, c, f, k, q, o, sg, nm, at_, t, pK, pL, pQ, pW, pX, pY, pS, zK, zL, zQ, zW, zX, zY, zS, np0, nr0, kd0, lf0, qt0, wd0, rx0, ry0, sh0, g0, g00, ar, ar2, u, u2, qp, qc, qv, fl, ln, mt, fr, Q, f0, lin, mts, hnm, h04, h06, hcw⟩ := hC
  obtain ⟨mP, mW, mR, mB, mS, mA, mK, mE, mT, mD, nP, nW, nR, nB, mN, mO, mQ, mX, mat, mtd, rp, rr, rpg, rwn, rro, rbg, nw, rw, rs, dp, ot, hnmM, hmw⟩ := hM
  obtain ⟨y1, g1, ey1⟩ := zz_of (eX E (i + 1))
  obtain ⟨y2, g2_, ey2⟩ := zz_of (eX E (i + 2))
  obtain ⟨y3, g3, ey3⟩ := zz_of (eX E (i + 3))
  by_cases hc : 0 ≤ y1 ∧ y1 ≤ 9 ∧ 0 ≤ y2 ∧ y2 ≤ 9 ∧ 0 ≤ y3 ∧ y3 ≤ 9
  · skip
    refine rr_aload_n 1 dL_law_629 rfl ?_
    refine rr_aload_n 0 dL_law_630 rfl ?_
    refine rr_iload_n 3 dL_law_631 rfl ?_
    refine rr_iconst dL_law_632 ?_
    refine rr_iadd dL_law_633 ?_
    refine rr_sldZ (y := y1) (i + 1) (by omega) (by omega) (by omega) ey1 dL_law_634 ?_
    refine rr_aload_n 0 dL_law_635 rfl ?_
    refine rr_iload_n 3 dL_law_636 rfl ?_
    refine rr_iconst dL_law_637 ?_
    refine rr_iadd dL_law_638 ?_
    refine rr_sldZ (y := y2) (i + 2) (by omega) (by omega) (by omega) ey2 dL_law_639 ?_
    refine rr_aload_n 0 dL_law_640 rfl ?_
    refine rr_iload_n 3 dL_law_641 rfl ?_
    refine rr_iconst dL_law_642 ?_
    refine rr_iadd dL_law_643 ?_
    refine rr_sldZ (y := y3) (i + 3) (by omega) (by omega) (by omega) ey3 dL_law_644 ?_
    refine rr_callF (wr := [(s, ob 3 [.ref sg, .ref nm, .int (zz ↑len), .int (zz ↑at_)]), (sg, aC E 200 tx), (nm, aI E 4 t), (pX, aI E 6 rx), (pY, aI E 6 ry), (z, ob 2 [.ref zK, .ref zL, .ref zQ, .ref zW, .ref zX, .ref zY, .ref zS, .int (zz ↑np0), .int (zz ↑nr0)]), (zK, aI E 7 kd0), (zL, aI E 7 lf0), (zQ, aI E 7 qt0), (zW, aI E 10 wd0), (zX, aI E 6 rx0), (zY, aI E 6 ry0), (zS, hO sh0), (a, hO h), (c, hO g00), (f, ob 4 [.ref ar, .int (zz ↑sz)]), (ar, aH E 8 (fun i => some (u i))), ((u 0), hO (g 0)), ((u 1), hO (g 1)), ((u 2), hO (g 2)), ((u 3), hO (g 3)), ((u 4), hO (g 4)), ((u 5), hO (g 5)), ((u 6), hO (g 6)), ((u 7), hO (g 7)), (k, ob 4 [.ref ar2, .int (zz ↑sz2)]), (ar2, aH E 2 (fun i => some (u2 i))), ((u2 0), hO (g2 0)), ((u2 1), hO (g2 1)), (q, ob 5 [.ref qp, .ref qc, .ref qv, .int (zz ↑ns)]), (qp, aI E 6 sp), (qc, aI E 6 sc), (qv, aI E 6 sv), (o, ob 1 [.ref p, .ref fl, .ref ln, .ref mt, .int (zz ↑fr), .int (zz (↑(Q.length)))]), (fl, hO f0), (ln, aI E 8000 lin), (mt, aI E 250 mts)]) (call_V (q0 := 0) kL_101 (c_which_y E 15 x s p z a b c f k q o pK pL pQ pW pX pY pS np nr kd lf qt wd sh g0 hp hsh y1 y2 y3 hc) rfl rfl rfl rfl (by omega) (by decide) (Nat.le_of_ble_eq_true rfl) (Nat.le_of_ble_eq_true rfl) dL_law_645) hcw (perm_idx [0, 4, 5, 6, 7, 8, 11, 21, 1, 2, 3, 9, 10, 12, 13, 14, 15, 16, 17, 18, 19, 20, 22, 23, 24, 25, 26, 27, 28, 29, 30, 31, 32, 33, 34, 35, 36, 37, 38, 39, 40, 41, 42, 43, 44] 45 rfl rfl rfl) (fun v w1 hp1 => ?_)
    obtain ⟨rfl, g1, rfl⟩ := hp1
    refine rr_aload_n 2 dL_law_648 rfl ?_
    refine rr_aload_n 0 dL_law_649 rfl ?_
    refine rr_iload_n 3 dL_law_650 rfl ?_
    refine rr_iconst dL_law_651 ?_
    refine rr_iadd dL_law_652 ?_
    refine rr_sldZ (y := y1) (i + 1) (by omega) (by omega) (by omega) ey1 dL_law_653 ?_
    refine rr_aload_n 0 dL_law_654 rfl ?_
    refine rr_iload_n 3 dL_law_655 rfl ?_
    refine rr_iconst dL_law_656 ?_
    refine rr_iadd dL_law_657 ?_
    refine rr_sldZ (y := y2) (i + 2) (by omega) (by omega) (by omega) ey2 dL_law_658 ?_
    refine rr_aload_n 0 dL_law_659 rfl ?_
    refine rr_iload_n 3 dL_law_660 rfl ?_
    refine rr_iconst dL_law_661 ?_
    refine rr_iadd dL_law_662 ?_
    refine rr_sldZ (y := y3) (i + 3) (by omega) (by omega) (by omega) ey3 dL_law_663 ?_
    refine rr_callG (wr := [(mR, aI E 12 ro), (mS, aI E 7 st), (mA, aI E 56 was), (mK, aI E 14 kp), (mE, aI E 18 sn), (mT, aI E 200 tx2), (mD, aI E 4 mtd), (nP, aI E 21 rpg), (nW, aI E 10 rwn), (nR, aI E 12 rro), (nB, aI E 7 rbg), (mO, aI E 7 rw), (mQ, aI E 49 rs), (mX, aI E 7 ot)]) (call_V (q0 := 0) kL_104 (c_Mwhich_y E 15 m mP mW mR mB mS mA mK mE mT mD nP nW nR nB mN mO mQ mX np nr sz sz2 ns len mat rp rr dp pg wn ro nw st kd lf qt wd rx ry h epl hp ero hr est ho hv bg sh ebg hsh (Or.inl hs6) y1 y2 y3 hc) rfl rfl rfl rfl (by omega) (by decide) (Nat.le_of_ble_eq_true rfl) (Nat.le_of_ble_eq_true rfl) dL_law_664) hmw (perm_idx [0, 1, 2, 4, 15, 3, 5, 6, 7, 8, 9, 10, 11, 12, 13, 14, 16, 17, 18] 19 rfl rfl rfl) (fun v2 w2 hp2 => ?_)
    obtain ⟨rfl, nw2, rfl⟩ := hp2
    refine RR.eq (st2 := [Value.int _, Value.int _]) rfl rfl rfl rfl ?_
    refine rr_eqT 797 dL_law_667 (by decide) rfl ?_
    refine K _ (INV_mk E x m len tx np kd lf qt wd nr rx ry sh h sz g sz2 g2 ns sp sc sv tx2 pg wn ro bg st was kp sn hlen hp hr hsh hs4 hs6 hnp ho hv hsz hg hsz2 hg2 hso etx epl ero ebg est ewa ekp esn ?_ ?_)
    · exact ⟨s, p, z, a, b, c, f, k, q, o, sg, nm, at_, t, pK, pL, pQ, pW, pX, pY, pS, zK, zL, zQ, zW, zX, zY, zS, np0, nr0, kd0, lf0, qt0, wd0, rx0, ry0, sh0, g1, g00, ar, ar2, u, u2, qp, qc, qv, fl, ln, mt, fr, Q, f0, lin, mts, hnm, h04, h06, perm_idx [0, 8, 9, 10, 1, 2, 3, 4, 5, 11, 12, 6, 13, 14, 15, 16, 17, 18, 19, 20, 21, 7, 22, 23, 24, 25, 26, 27, 28, 29, 30, 31, 32, 33, 34, 35, 36, 37, 38, 39, 40, 41, 42, 43, 44] 45 rfl rfl rfl⟩
    · exact ⟨mP, mW, mR, mB, mS, mA, mK, mE, mT, mD, nP, nW, nR, nB, mN, mO, mQ, mX, mat, mtd, rp, rr, rpg, rwn, rro, rbg, nw2, rw, rs, dp, ot, hnmM, perm_idx [0, 1, 2, 5, 3, 6, 7, 8, 9, 10, 11, 12, 13, 14, 15, 4, 16, 17, 18] 19 rfl rfl rfl⟩
  · skip
    refine rr_aload_n 1 dL_law_629 rfl ?_
    refine rr_aload_n 0 dL_law_630 rfl ?_
    refine rr_iload_n 3 dL_law_631 rfl ?_
    refine rr_iconst dL_law_632 ?_
    refine rr_iadd dL_law_633 ?_
    refine rr_sldZ (y := y1) (i + 1) (by omega) (by omega) (by omega) ey1 dL_law_634 ?_
    refine rr_aload_n 0 dL_law_635 rfl ?_
    refine rr_iload_n 3 dL_law_636 rfl ?_
    refine rr_iconst dL_law_637 ?_
    refine rr_iadd dL_law_638 ?_
    refine rr_sldZ (y := y2) (i + 2) (by omega) (by omega) (by omega) ey2 dL_law_639 ?_
    refine rr_aload_n 0 dL_law_640 rfl ?_
    refine rr_iload_n 3 dL_law_641 rfl ?_
    refine rr_iconst dL_law_642 ?_
    refine rr_iadd dL_law_643 ?_
    refine rr_sldZ (y := y3) (i + 3) (by omega) (by omega) (by omega) ey3 dL_law_644 ?_
    refine rr_callF (wr := [(s, ob 3 [.ref sg, .ref nm, .int (zz ↑len), .int (zz ↑at_)]), (sg, aC E 200 tx), (nm, aI E 4 t), (p, ob 2 [.ref pK, .ref pL, .ref pQ, .ref pW, .ref pX, .ref pY, .ref pS, .int (zz ↑np), .int (zz ↑nr)]), (pK, aI E 7 kd), (pL, aI E 7 lf), (pQ, aI E 7 qt), (pW, aI E 10 wd), (pX, aI E 6 rx), (pY, aI E 6 ry), (pS, hO sh), (z, ob 2 [.ref zK, .ref zL, .ref zQ, .ref zW, .ref zX, .ref zY, .ref zS, .int (zz ↑np0), .int (zz ↑nr0)]), (zK, aI E 7 kd0), (zL, aI E 7 lf0), (zQ, aI E 7 qt0), (zW, aI E 10 wd0), (zX, aI E 6 rx0), (zY, aI E 6 ry0), (zS, hO sh0), (a, hO h), (b, hO g0), (c, hO g00), (f, ob 4 [.ref ar, .int (zz ↑sz)]), (ar, aH E 8 (fun i => some (u i))), ((u 0), hO (g 0)), ((u 1), hO (g 1)), ((u 2), hO (g 2)), ((u 3), hO (g 3)), ((u 4), hO (g 4)), ((u 5), hO (g 5)), ((u 6), hO (g 6)), ((u 7), hO (g 7)), (k, ob 4 [.ref ar2, .int (zz ↑sz2)]), (ar2, aH E 2 (fun i => some (u2 i))), ((u2 0), hO (g2 0)), ((u2 1), hO (g2 1)), (q, ob 5 [.ref qp, .ref qc, .ref qv, .int (zz ↑ns)]), (qp, aI E 6 sp), (qc, aI E 6 sc), (qv, aI E 6 sv), (o, ob 1 [.ref p, .ref fl, .ref ln, .ref mt, .int (zz ↑fr), .int (zz (↑(Q.length)))]), (fl, hO f0), (ln, aI E 8000 lin), (mt, aI E 250 mts)]) (call_V (q0 := 0) kL_101 (c_which_bad E 15 x s p z a b c f k q o y1 y2 y3 g1 g2_ g3 hc) rfl rfl rfl rfl (by omega) (by decide) (Nat.le_of_ble_eq_true rfl) (Nat.le_of_ble_eq_true rfl) dL_law_645) hcw (perm_idx [0, 1, 2, 3, 4, 5, 6, 7, 8, 9, 10, 11, 12, 13, 14, 15, 16, 17, 18, 19, 20, 21, 22, 23, 24, 25, 26, 27, 28, 29, 30, 31, 32, 33, 34, 35, 36, 37, 38, 39, 40, 41, 42, 43, 44] 45 rfl rfl rfl) (fun v w1 hp1 => ?_)
    obtain ⟨rfl, rfl⟩ := hp1
    refine rr_aload_n 2 dL_law_648 rfl ?_
    refine rr_aload_n 0 dL_law_649 rfl ?_
    refine rr_iload_n 3 dL_law_650 rfl ?_
    refine rr_iconst dL_law_651 ?_
    refine rr_iadd dL_law_652 ?_
    refine rr_sldZ (y := y1) (i + 1) (by omega) (by omega) (by omega) ey1 dL_law_653 ?_
    refine rr_aload_n 0 dL_law_654 rfl ?_
    refine rr_iload_n 3 dL_law_655 rfl ?_
    refine rr_iconst dL_law_656 ?_
    refine rr_iadd dL_law_657 ?_
    refine rr_sldZ (y := y2) (i + 2) (by omega) (by omega) (by omega) ey2 dL_law_658 ?_
    refine rr_aload_n 0 dL_law_659 rfl ?_
    refine rr_iload_n 3 dL_law_660 rfl ?_
    refine rr_iconst dL_law_661 ?_
    refine rr_iadd dL_law_662 ?_
    refine rr_sldZ (y := y3) (i + 3) (by omega) (by omega) (by omega) ey3 dL_law_663 ?_
    refine rr_callG (wr := [(mP, aI E 21 pg), (mW, aI E 10 wn), (mR, aI E 12 ro), (mB, aI E 7 bg), (mS, aI E 7 st), (mA, aI E 56 was), (mK, aI E 14 kp), (mE, aI E 18 sn), (mT, aI E 200 tx2), (mD, aI E 4 mtd), (nP, aI E 21 rpg), (nW, aI E 10 rwn), (nR, aI E 12 rro), (nB, aI E 7 rbg), (mN, aI E 7 nw), (mO, aI E 7 rw), (mQ, aI E 49 rs), (mX, aI E 7 ot)]) (call_V (q0 := 0) kL_104 (c_Mwhich_bad E 15 m mP mW mR mB mS mA mK mE mT mD nP nW nR nB mN mO mQ mX np nr sz sz2 ns len mat rp rr dp y1 y2 y3 g1 g2_ g3 hc) rfl rfl rfl rfl (by omega) (by decide) (Nat.le_of_ble_eq_true rfl) (Nat.le_of_ble_eq_true rfl) dL_law_664) hmw (perm_idx [0, 1, 2, 3, 4, 5, 6, 7, 8, 9, 10, 11, 12, 13, 14, 15, 16, 17, 18] 19 rfl rfl rfl) (fun v2 w2 hp2 => ?_)
    obtain ⟨rfl, rfl⟩ := hp2
    refine RR.eq (st2 := [Value.int _, Value.int _]) rfl rfl rfl rfl ?_
    refine rr_eqT 797 dL_law_667 (by decide) rfl ?_
    refine K _ (INV_mk E x m len tx np kd lf qt wd nr rx ry sh h sz g sz2 g2 ns sp sc sv tx2 pg wn ro bg st was kp sn hlen hp hr hsh hs4 hs6 hnp ho hv hsz hg hsz2 hg2 hso etx epl ero ebg est ewa ekp esn ?_ ?_)
    · exact ⟨s, p, z, a, b, c, f, k, q, o, sg, nm, at_, t, pK, pL, pQ, pW, pX, pY, pS, zK, zL, zQ, zW, zX, zY, zS, np0, nr0, kd0, lf0, qt0, wd0, rx0, ry0, sh0, g0, g00, ar, ar2, u, u2, qp, qc, qv, fl, ln, mt, fr, Q, f0, lin, mts, hnm, h04, h06, perm_idx [0, 1, 2, 3, 4, 5, 6, 7, 8, 9, 10, 11, 12, 13, 14, 15, 16, 17, 18, 19, 20, 21, 22, 23, 24, 25, 26, 27, 28, 29, 30, 31, 32, 33, 34, 35, 36, 37, 38, 39, 40, 41, 42, 43, 44] 45 rfl rfl rfl⟩
    · exact ⟨mP, mW, mR, mB, mS, mA, mK, mE, mT, mD, nP, nW, nR, nB, mN, mO, mQ, mX, mat, mtd, rp, rr, rpg, rwn, rro, rbg, nw, rw, rs, dp, ot, hnmM, perm_idx [0, 1, 2, 3, 4, 5, 6, 7, 8, 9, 10, 11, 12, 13, 14, 15, 16, 17, 18] 19 rfl rfl rfl⟩
set_option maxRecDepth 100000 in
set_option maxHeartbeats 1000000 in
theorem lw_likely {E : Ev} {x m i kc ks : Nat} {ws : va_W} {post : Option Value → va_W → Prop} (hL : eL E ≤ 256) (hi : i + 4 ≤ eL E) (hJ : INV E x m ws) (K : ∀ ws2 : va_W, INV E x m ws2 → RR E mL_law 20 kc ks 797 [(0, .ref (eB E)), (1, .ref x), (2, .ref m), (3, .int (zz (i : Int)))] [] ws2 post) : RR E mL_law 20 kc ks 672 [(0, .ref (eB E)), (1, .ref x), (2, .ref m), (3, .int (zz (i : Int)))] [] ws post := by
  obtain ⟨len, tx, np, kd, lf, qt, wd, nr, rx, ry, sh, h, sz, g, sz2, g2, ns, sp, sc, sv, tx2, pg, wn, ro, bg, st, was, kp, sn, cw, mw, hlen, hp, hr, hsh, hs4, hs6, hnp, ho, hv, hsz, hg, hsz2, hg2, hso, etx, epl, ero, ebg, est, ewa, ekp, esn, hC, hM, rfl⟩ := hJ
  obtain ⟨s, p, z, a, b, c, f, k, q, o, sg, nm, at_, t, pK, pL, pQ, pW, pX, pY, pS, zK, zL, zQ, zW, zX, zY, zS, np0, nr0, kd0, lf0, qt0, wd0, rx0, ry0, sh0, g0, g00, ar, ar2, u, u2, qp, qc, qv, fl, ln, mt, fr, Q, f0, lin, mts, hnm, h04, h06, hcw⟩ := hC
  obtain ⟨mP, mW, mR, mB, mS, mA, mK, mE, mT, mD, nP, nW, nR, nB, mN, mO, mQ, mX, mat, mtd, rp, rr, rpg, rwn, rro, rbg, nw, rw, rs, dp, ot, hnmM, hmw⟩ := hM
  obtain ⟨y1, g1, ey1⟩ := zz_of (eX E (i + 1))
  obtain ⟨y2, g2_, ey2⟩ := zz_of (eX E (i + 2))
  by_cases hc : (0 ≤ y1 ∧ y1 ≤ 5) ∧ 0 ≤ y2 ∧ y2 ≤ 1
  · skip
    have hc1 := hc.1
    have hc2 := hc.2
    obtain ⟨ip, rfl⟩ : ∃ n : Nat, y1 = (n : Int) := ⟨y1.toNat, by omega⟩
    have hip : ip ≤ 5 := by omega
    refine rr_aload_n 1 dL_law_672 rfl ?_
    refine rr_aload_n 0 dL_law_673 rfl ?_
    refine rr_iload_n 3 dL_law_674 rfl ?_
    refine rr_iconst dL_law_675 ?_
    refine rr_iadd dL_law_676 ?_
    refine rr_sldZ (y := ↑ip) (i + 1) (by omega) (by omega) (by omega) ey1 dL_law_677 ?_
    refine rr_aload_n 0 dL_law_678 rfl ?_
    refine rr_iload_n 3 dL_law_679 rfl ?_
    refine rr_iconst dL_law_680 ?_
    refine rr_iadd dL_law_681 ?_
    refine rr_sldZ (y := y2) (i + 2) (by omega) (by omega) (by omega) ey2 dL_law_682 ?_
    refine rr_callF (wr := [(s, ob 3 [.ref sg, .ref nm, .int (zz ↑len), .int (zz ↑at_)]), (sg, aC E 200 tx), (nm, aI E 4 t), (pS, hO sh), (z, ob 2 [.ref zK, .ref zL, .ref zQ, .ref zW, .ref zX, .ref zY, .ref zS, .int (zz ↑np0), .int (zz ↑nr0)]), (zK, aI E 7 kd0), (zL, aI E 7 lf0), (zQ, aI E 7 qt0), (zW, aI E 10 wd0), (zX, aI E 6 rx0), (zY, aI E 6 ry0), (zS, hO sh0), (b, hO g0), (c, hO g00), (f, ob 4 [.ref ar, .int (zz ↑sz)]), (ar, aH E 8 (fun i => some (u i))), ((u 0), hO (g 0)), ((u 1), hO (g 1)), ((u 2), hO (g 2)), ((u 3), hO (g 3)), ((u 4), hO (g 4)), ((u 5), hO (g 5)), ((u 6), hO (g 6)), ((u 7), hO (g 7)), (k, ob 4 [.ref ar2, .int (zz ↑sz2)]), (ar2, aH E 2 (fun i => some (u2 i))), ((u2 0), hO (g2 0)), ((u2 1), hO (g2 1)), (q, ob 5 [.ref qp, .ref qc, .ref qv, .int (zz ↑ns)]), (qp, aI E 6 sp), (qc, aI E 6 sc), (qv, aI E 6 sv), (ln, aI E 8000 lin), (mt, aI E 250 mts)]) (call_V (q0 := 0) kL_105 (c_likely_y E 7 x s p z a b c f k q o pK pL pQ pW pX pY pS np nr fl ln mt fr Q rx ry kd lf qt wd h f0 hp ho hr hnp ip y2 hip hc2) rfl rfl rfl rfl (by omega) (by decide) (Nat.le_of_ble_eq_true rfl) (Nat.le_of_ble_eq_true rfl) dL_law_683) hcw (perm_idx [0, 41, 42, 4, 5, 6, 7, 8, 9, 10, 20, 1, 2, 3, 11, 12, 13, 14, 15, 16, 17, 18, 19, 21, 22, 23, 24, 25, 26, 27, 28, 29, 30, 31, 32, 33, 34, 35, 36, 37, 38, 39, 40, 43, 44] 45 rfl rfl rfl) (fun v w1 hp1 => ?_)
    obtain ⟨rfl, f2, rfl⟩ := hp1
    refine rr_aload_n 2 dL_law_686 rfl ?_
    refine rr_aload_n 0 dL_law_687 rfl ?_
    refine rr_iload_n 3 dL_law_688 rfl ?_
    refine rr_iconst dL_law_689 ?_
    refine rr_iadd dL_law_690 ?_
    refine rr_sldZ (y := ↑ip) (i + 1) (by omega) (by omega) (by omega) ey1 dL_law_691 ?_
    refine rr_aload_n 0 dL_law_692 rfl ?_
    refine rr_iload_n 3 dL_law_693 rfl ?_
    refine rr_iconst dL_law_694 ?_
    refine rr_iadd dL_law_695 ?_
    refine rr_sldZ (y := y2) (i + 2) (by omega) (by omega) (by omega) ey2 dL_law_696 ?_
    refine rr_callG (wr := [(mB, aI E 7 bg), (mA, aI E 56 was), (mK, aI E 14 kp), (mE, aI E 18 sn), (mT, aI E 200 tx2), (mD, aI E 4 mtd), (nP, aI E 21 rpg), (nW, aI E 10 rwn), (nR, aI E 12 rro), (nB, aI E 7 rbg), (mX, aI E 7 ot)]) (call_V (q0 := 0) kL_108 (c_Mlikely_y E 14 m mP mW mR mB mS mA mK mE mT mD nP nW nR nB mN mO mQ mX np nr sz sz2 ns len mat rp rr dp pg wn ro nw st kd lf qt wd rx ry h epl hp ero hr est ho hv rw rs hnp ip (lndF (nxF np kd lf qt wd (h 5)) (lpF nr rx ry) np ip (plN np kd h)) y2 hip hc2 ((lik_eq hp ho).symm) (lndF_le _ _ _ _ _)) rfl rfl rfl rfl (by omega) (by decide) (Nat.le_of_ble_eq_true rfl) (Nat.le_of_ble_eq_true rfl) dL_law_697) hmw (perm_idx [0, 1, 2, 3, 15, 5, 16, 17, 4, 6, 7, 8, 9, 10, 11, 12, 13, 14, 18] 19 rfl rfl rfl) (fun v2 w2 hp2 => ?_)
    obtain ⟨rfl, nw2, rw2, rs2, dp2, rfl⟩ := hp2
    refine RR.eq (st2 := [Value.int _, Value.int _]) rfl rfl rfl rfl ?_
    refine rr_eqT 797 dL_law_700 (by decide) (congrArg zz (lik_gcd (pow_le5 hp.1 hip))) ?_
    refine K _ (INV_mk E x m len tx np kd lf qt wd nr rx ry sh h sz g sz2 g2 ns sp sc sv tx2 pg wn ro bg st was kp sn hlen hp hr hsh hs4 hs6 hnp ho hv hsz hg hsz2 hg2 hso etx epl ero ebg est ewa ekp esn ?_ ?_)
    · exact ⟨s, p, z, a, b, c, f, k, q, o, sg, nm, at_, t, pK, pL, pQ, pW, pX, pY, pS, zK, zL, zQ, zW, zX, zY, zS, np0, nr0, kd0, lf0, qt0, wd0, rx0, ry0, sh0, g0, g00, ar, ar2, u, u2, qp, qc, qv, fl, ln, mt, fr, Q, f2, lin, mts, hnm, h04, h06, perm_idx [0, 11, 12, 13, 3, 4, 5, 6, 7, 8, 9, 14, 15, 16, 17, 18, 19, 20, 21, 22, 10, 23, 24, 25, 26, 27, 28, 29, 30, 31, 32, 33, 34, 35, 36, 37, 38, 39, 40, 41, 42, 1, 2, 43, 44] 45 rfl rfl rfl⟩
    · exact ⟨mP, mW, mR, mB, mS, mA, mK, mE, mT, mD, nP, nW, nR, nB, mN, mO, mQ, mX, mat, mtd, rp, rr, rpg, rwn, rro, rbg, nw2, rw2, rs2, dp2, ot, hnmM, perm_idx [0, 1, 2, 3, 8, 5, 9, 10, 11, 12, 13, 14, 15, 16, 17, 4, 6, 7, 18] 19 rfl rfl rfl⟩
  · skip
    refine rr_aload_n 1 dL_law_672 rfl ?_
    refine rr_aload_n 0 dL_law_673 rfl ?_
    refine rr_iload_n 3 dL_law_674 rfl ?_
    refine rr_iconst dL_law_675 ?_
    refine rr_iadd dL_law_676 ?_
    refine rr_sldZ (y := y1) (i + 1) (by omega) (by omega) (by omega) ey1 dL_law_677 ?_
    refine rr_aload_n 0 dL_law_678 rfl ?_
    refine rr_iload_n 3 dL_law_679 rfl ?_
    refine rr_iconst dL_law_680 ?_
    refine rr_iadd dL_law_681 ?_
    refine rr_sldZ (y := y2) (i + 2) (by omega) (by omega) (by omega) ey2 dL_law_682 ?_
    refine rr_callF (wr := [(s, ob 3 [.ref sg, .ref nm, .int (zz ↑len), .int (zz ↑at_)]), (sg, aC E 200 tx), (nm, aI E 4 t), (p, ob 2 [.ref pK, .ref pL, .ref pQ, .ref pW, .ref pX, .ref pY, .ref pS, .int (zz ↑np), .int (zz ↑nr)]), (pK, aI E 7 kd), (pL, aI E 7 lf), (pQ, aI E 7 qt), (pW, aI E 10 wd), (pX, aI E 6 rx), (pY, aI E 6 ry), (pS, hO sh), (z, ob 2 [.ref zK, .ref zL, .ref zQ, .ref zW, .ref zX, .ref zY, .ref zS, .int (zz ↑np0), .int (zz ↑nr0)]), (zK, aI E 7 kd0), (zL, aI E 7 lf0), (zQ, aI E 7 qt0), (zW, aI E 10 wd0), (zX, aI E 6 rx0), (zY, aI E 6 ry0), (zS, hO sh0), (a, hO h), (b, hO g0), (c, hO g00), (f, ob 4 [.ref ar, .int (zz ↑sz)]), (ar, aH E 8 (fun i => some (u i))), ((u 0), hO (g 0)), ((u 1), hO (g 1)), ((u 2), hO (g 2)), ((u 3), hO (g 3)), ((u 4), hO (g 4)), ((u 5), hO (g 5)), ((u 6), hO (g 6)), ((u 7), hO (g 7)), (k, ob 4 [.ref ar2, .int (zz ↑sz2)]), (ar2, aH E 2 (fun i => some (u2 i))), ((u2 0), hO (g2 0)), ((u2 1), hO (g2 1)), (q, ob 5 [.ref qp, .ref qc, .ref qv, .int (zz ↑ns)]), (qp, aI E 6 sp), (qc, aI E 6 sc), (qv, aI E 6 sv), (o, ob 1 [.ref p, .ref fl, .ref ln, .ref mt, .int (zz ↑fr), .int (zz (↑(Q.length)))]), (fl, hO f0), (ln, aI E 8000 lin), (mt, aI E 250 mts)]) (call_V (q0 := 0) kL_105 (c_likely_bad E 13 x s p z a b c f k q o y1 y2 g1 g2_ hc) rfl rfl rfl rfl (by omega) (by decide) (Nat.le_of_ble_eq_true rfl) (Nat.le_of_ble_eq_true rfl) dL_law_683) hcw (perm_idx [0, 1, 2, 3, 4, 5, 6, 7, 8, 9, 10, 11, 12, 13, 14, 15, 16, 17, 18, 19, 20, 21, 22, 23, 24, 25, 26, 27, 28, 29, 30, 31, 32, 33, 34, 35, 36, 37, 38, 39, 40, 41, 42, 43, 44] 45 rfl rfl rfl) (fun v w1 hp1 => ?_)
    obtain ⟨rfl, rfl⟩ := hp1
    refine rr_aload_n 2 dL_law_686 rfl ?_
    refine rr_aload_n 0 dL_law_687 rfl ?_
    refine rr_iload_n 3 dL_law_688 rfl ?_
    refine rr_iconst dL_law_689 ?_
    refine rr_iadd dL_law_690 ?_
    refine rr_sldZ (y := y1) (i + 1) (by omega) (by omega) (by omega) ey1 dL_law_691 ?_
    refine rr_aload_n 0 dL_law_692 rfl ?_
    refine rr_iload_n 3 dL_law_693 rfl ?_
    refine rr_iconst dL_law_694 ?_
    refine rr_iadd dL_law_695 ?_
    refine rr_sldZ (y := y2) (i + 2) (by omega) (by omega) (by omega) ey2 dL_law_696 ?_
    refine rr_callG (wr := [(mP, aI E 21 pg), (mW, aI E 10 wn), (mR, aI E 12 ro), (mB, aI E 7 bg), (mS, aI E 7 st), (mA, aI E 56 was), (mK, aI E 14 kp), (mE, aI E 18 sn), (mT, aI E 200 tx2), (mD, aI E 4 mtd), (nP, aI E 21 rpg), (nW, aI E 10 rwn), (nR, aI E 12 rro), (nB, aI E 7 rbg), (mN, aI E 7 nw), (mO, aI E 7 rw), (mQ, aI E 49 rs), (mX, aI E 7 ot)]) (call_V (q0 := 0) kL_108 (c_Mlikely_bad E 14 m mP mW mR mB mS mA mK mE mT mD nP nW nR nB mN mO mQ mX np nr sz sz2 ns len mat rp rr dp y1 y2 g1 g2_ hc) rfl rfl rfl rfl (by omega) (by decide) (Nat.le_of_ble_eq_true rfl) (Nat.le_of_ble_eq_true rfl) dL_law_697) hmw (perm_idx [0, 1, 2, 3, 4, 5, 6, 7, 8, 9, 10, 11, 12, 13, 14, 15, 16, 17, 18] 19 rfl rfl rfl) (fun v2 w2 hp2 => ?_)
    obtain ⟨rfl, rfl⟩ := hp2
    refine RR.eq (st2 := [Value.int _, Value.int _]) rfl rfl rfl rfl ?_
    refine rr_eqT 797 dL_law_700 (by decide) rfl ?_
    refine K _ (INV_mk E x m len tx np kd lf qt wd nr rx ry sh h sz g sz2 g2 ns sp sc sv tx2 pg wn ro bg st was kp sn hlen hp hr hsh hs4 hs6 hnp ho hv hsz hg hsz2 hg2 hso etx epl ero ebg est ewa ekp esn ?_ ?_)
    · exact ⟨s, p, z, a, b, c, f, k, q, o, sg, nm, at_, t, pK, pL, pQ, pW, pX, pY, pS, zK, zL, zQ, zW, zX, zY, zS, np0, nr0, kd0, lf0, qt0, wd0, rx0, ry0, sh0, g0, g00, ar, ar2, u, u2, qp, qc, qv, fl, ln, mt, fr, Q, f0, lin, mts, hnm, h04, h06, perm_idx [0, 1, 2, 3, 4, 5, 6, 7, 8, 9, 10, 11, 12, 13, 14, 15, 16, 17, 18, 19, 20, 21, 22, 23, 24, 25, 26, 27, 28, 29, 30, 31, 32, 33, 34, 35, 36, 37, 38, 39, 40, 41, 42, 43, 44] 45 rfl rfl rfl⟩
    · exact ⟨mP, mW, mR, mB, mS, mA, mK, mE, mT, mD, nP, nW, nR, nB, mN, mO, mQ, mX, mat, mtd, rp, rr, rpg, rwn, rro, rbg, nw, rw, rs, dp, ot, hnmM, perm_idx [0, 1, 2, 3, 4, 5, 6, 7, 8, 9, 10, 11, 12, 13, 14, 15, 16, 17, 18] 19 rfl rfl rfl⟩
set_option maxRecDepth 100000 in
set_option maxHeartbeats 1000000 in
theorem lw_flight {E : Ev} {x m i kc ks : Nat} {ws : va_W} {post : Option Value → va_W → Prop} (hL : eL E ≤ 256) (hi : i + 4 ≤ eL E) (hJ : INV E x m ws) (K : ∀ ws2 : va_W, INV E x m ws2 → RR E mL_law 20 kc ks 797 [(0, .ref (eB E)), (1, .ref x), (2, .ref m), (3, .int (zz (i : Int)))] [] ws2 post) : RR E mL_law 20 kc ks 705 [(0, .ref (eB E)), (1, .ref x), (2, .ref m), (3, .int (zz (i : Int)))] [] ws post := by
  obtain ⟨len, tx, np, kd, lf, qt, wd, nr, rx, ry, sh, h, sz, g, sz2, g2, ns, sp, sc, sv, tx2, pg, wn, ro, bg, st, was, kp, sn, cw, mw, hlen, hp, hr, hsh, hs4, hs6, hnp, ho, hv, hsz, hg, hsz2, hg2, hso, etx, epl, ero, ebg, est, ewa, ekp, esn, hC, hM, rfl⟩ := hJ
  obtain ⟨s, p, z, a, b, c, f, k, q, o, sg, nm, at_, t, pK, pL, pQ, pW, pX, pY, pS, zK, zL, zQ, zW, zX, zY, zS, np0, nr0, kd0, lf0, qt0, wd0, rx0, ry0, sh0, g0, g00, ar, ar2, u, u2, qp, qc, qv, fl, ln, mt, fr, Q, f0, lin, mts, hnm, h04, h06, hcw⟩ := hC
  obtain ⟨mP, mW, mR, mB, mS, mA, mK, mE, mT, mD, nP, nW, nR, nB, mN, mO, mQ, mX, mat, mtd, rp, rr, rpg, rwn, rro, rbg, nw, rw, rs, dp, ot, hnmM, hmw⟩ := hM
  obtain ⟨y1, g1, ey1⟩ := zz_of (eX E (i + 1))
  obtain ⟨y2, g2_, ey2⟩ := zz_of (eX E (i + 2))
  obtain ⟨y3, g3, ey3⟩ := zz_of (eX E (i + 3))
  by_cases hc : (0 ≤ y1 ∧ y1 ≤ 9999) ∧ (1 ≤ y2 ∧ y2 ≤ 40) ∧ 0 ≤ y3 ∧ y3 ≤ 1
  · skip
    have hc1 := hc.1
    have hc2 := hc.2.1
    have hc3 := hc.2.2
    obtain ⟨ip, rfl⟩ : ∃ n : Nat, y1 = (n : Int) := ⟨y1.toNat, by omega⟩
    obtain ⟨jp, rfl⟩ : ∃ n : Nat, y2 = (n : Int) := ⟨y2.toNat, by omega⟩
    have hip : ip ≤ 9999 := by omega
    have hjp : 1 ≤ jp ∧ jp ≤ 40 := by omega
    refine rr_aload_n 1 dL_law_705 rfl ?_
    refine rr_aload_n 0 dL_law_706 rfl ?_
    refine rr_iload_n 3 dL_law_707 rfl ?_
    refine rr_iconst dL_law_708 ?_
    refine rr_iadd dL_law_709 ?_
    refine rr_sldZ (y := ↑ip) (i + 1) (by omega) (by omega) (by omega) ey1 dL_law_710 ?_
    refine rr_aload_n 0 dL_law_711 rfl ?_
    refine rr_iload_n 3 dL_law_712 rfl ?_
    refine rr_iconst dL_law_713 ?_
    refine rr_iadd dL_law_714 ?_
    refine rr_sldZ (y := ↑jp) (i + 2) (by omega) (by omega) (by omega) ey2 dL_law_715 ?_
    refine rr_aload_n 0 dL_law_716 rfl ?_
    refine rr_iload_n 3 dL_law_717 rfl ?_
    refine rr_iconst dL_law_718 ?_
    refine rr_iadd dL_law_719 ?_
    refine rr_sldZ (y := y3) (i + 3) (by omega) (by omega) (by omega) ey3 dL_law_720 ?_
    refine rr_callF (wr := [(s, ob 3 [.ref sg, .ref nm, .int (zz ↑len), .int (zz ↑at_)]), (sg, aC E 200 tx), (nm, aI E 4 t), (pS, hO sh), (z, ob 2 [.ref zK, .ref zL, .ref zQ, .ref zW, .ref zX, .ref zY, .ref zS, .int (zz ↑np0), .int (zz ↑nr0)]), (zK, aI E 7 kd0), (zL, aI E 7 lf0), (zQ, aI E 7 qt0), (zW, aI E 10 wd0), (zX, aI E 6 rx0), (zY, aI E 6 ry0), (zS, hO sh0), (c, hO g00), (f, ob 4 [.ref ar, .int (zz ↑sz)]), (ar, aH E 8 (fun i => some (u i))), ((u 0), hO (g 0)), ((u 1), hO (g 1)), ((u 2), hO (g 2)), ((u 3), hO (g 3)), ((u 4), hO (g 4)), ((u 5), hO (g 5)), ((u 6), hO (g 6)), ((u 7), hO (g 7)), (k, ob 4 [.ref ar2, .int (zz ↑sz2)]), (ar2, aH E 2 (fun i => some (u2 i))), ((u2 0), hO (g2 0)), ((u2 1), hO (g2 1)), (q, ob 5 [.ref qp, .ref qc, .ref qv, .int (zz ↑ns)]), (qp, aI E 6 sp), (qc, aI E 6 sc), (qv, aI E 6 sv), (o, ob 1 [.ref p, .ref fl, .ref ln, .ref mt, .int (zz ↑fr), .int (zz (↑(Q.length)))]), (fl, hO f0), (ln, aI E 8000 lin), (mt, aI E 250 mts)]) (call_V (q0 := 0) kL_109 (c_flight_y E 15 x s p z a b c f k q o pK pL pQ pW pX pY pS np nr rx ry kd lf qt wd h g0 hp ho hr hnp ip jp y3 hip hjp hc3) rfl rfl rfl rfl (by omega) (by decide) (Nat.le_of_ble_eq_true rfl) (Nat.le_of_ble_eq_true rfl) dL_law_721) hcw (perm_idx [0, 4, 5, 6, 7, 8, 9, 10, 20, 21, 1, 2, 3, 11, 12, 13, 14, 15, 16, 17, 18, 19, 22, 23, 24, 25, 26, 27, 28, 29, 30, 31, 32, 33, 34, 35, 36, 37, 38, 39, 40, 41, 42, 43, 44] 45 rfl rfl rfl) (fun v w1 hp1 => ?_)
    obtain ⟨rfl, g1, rfl⟩ := hp1
    refine rr_aload_n 2 dL_law_724 rfl ?_
    refine rr_aload_n 0 dL_law_725 rfl ?_
    refine rr_iload_n 3 dL_law_726 rfl ?_
    refine rr_iconst dL_law_727 ?_
    refine rr_iadd dL_law_728 ?_
    refine rr_sldZ (y := ↑ip) (i + 1) (by omega) (by omega) (by omega) ey1 dL_law_729 ?_
    refine rr_aload_n 0 dL_law_730 rfl ?_
    refine rr_iload_n 3 dL_law_731 rfl ?_
    refine rr_iconst dL_law_732 ?_
    refine rr_iadd dL_law_733 ?_
    refine rr_sldZ (y := ↑jp) (i + 2) (by omega) (by omega) (by omega) ey2 dL_law_734 ?_
    refine rr_aload_n 0 dL_law_735 rfl ?_
    refine rr_iload_n 3 dL_law_736 rfl ?_
    refine rr_iconst dL_law_737 ?_
    refine rr_iadd dL_law_738 ?_
    refine rr_sldZ (y := y3) (i + 3) (by omega) (by omega) (by omega) ey3 dL_law_739 ?_
    refine rr_callG (wr := [(mB, aI E 7 bg), (mA, aI E 56 was), (mK, aI E 14 kp), (mE, aI E 18 sn), (mT, aI E 200 tx2), (mD, aI E 4 mtd), (nP, aI E 21 rpg), (nW, aI E 10 rwn), (nR, aI E 12 rro), (nB, aI E 7 rbg), (mO, aI E 7 rw), (mQ, aI E 49 rs), (mX, aI E 7 ot)]) (call_V (q0 := 0) kL_112 (c_Mflight_y E 15 m mP mW mR mB mS mA mK mE mT mD nP nW nR nB mN mO mQ mX np nr sz sz2 ns len mat rp rr dp pg wn ro nw st kd lf qt wd rx ry h epl hp ero hr est ho hv hnp ip jp y3 hip hjp hc3) rfl rfl rfl rfl (by omega) (by decide) (Nat.le_of_ble_eq_true rfl) (Nat.le_of_ble_eq_true rfl) dL_law_740) hmw (perm_idx [0, 1, 2, 3, 15, 5, 4, 6, 7, 8, 9, 10, 11, 12, 13, 14, 16, 17, 18] 19 rfl rfl rfl) (fun v2 w2 hp2 => ?_)
    obtain ⟨rfl, nw2, rfl⟩ := hp2
    refine RR.eq (st2 := [Value.int _, Value.int _]) rfl rfl rfl rfl ?_
    refine rr_eqT 797 dL_law_743 (by decide) rfl ?_
    refine K _ (INV_mk E x m len tx np kd lf qt wd nr rx ry sh h sz g sz2 g2 ns sp sc sv tx2 pg wn ro bg st was kp sn hlen hp hr hsh hs4 hs6 hnp ho hv hsz hg hsz2 hg2 hso etx epl ero ebg est ewa ekp esn ?_ ?_)
    · exact ⟨s, p, z, a, b, c, f, k, q, o, sg, nm, at_, t, pK, pL, pQ, pW, pX, pY, pS, zK, zL, zQ, zW, zX, zY, zS, np0, nr0, kd0, lf0, qt0, wd0, rx0, ry0, sh0, g1, g00, ar, ar2, u, u2, qp, qc, qv, fl, ln, mt, fr, Q, f0, lin, mts, hnm, h04, h06, perm_idx [0, 10, 11, 12, 1, 2, 3, 4, 5, 6, 7, 13, 14, 15, 16, 17, 18, 19, 20, 21, 8, 9, 22, 23, 24, 25, 26, 27, 28, 29, 30, 31, 32, 33, 34, 35, 36, 37, 38, 39, 40, 41, 42, 43, 44] 45 rfl rfl rfl⟩
    · exact ⟨mP, mW, mR, mB, mS, mA, mK, mE, mT, mD, nP, nW, nR, nB, mN, mO, mQ, mX, mat, mtd, rp, rr, rpg, rwn, rro, rbg, nw2, rw, rs, dp, ot, hnmM, perm_idx [0, 1, 2, 3, 6, 5, 7, 8, 9, 10, 11, 12, 13, 14, 15, 4, 16, 17, 18] 19 rfl rfl rfl⟩
  · skip
    refine rr_aload_n 1 dL_law_705 rfl ?_
    refine rr_aload_n 0 dL_law_706 rfl ?_
    refine rr_iload_n 3 dL_law_707 rfl ?_
    refine rr_iconst dL_law_708 ?_
    refine rr_iadd dL_law_709 ?_
    refine rr_sldZ (y := y1) (i + 1) (by omega) (by omega) (by omega) ey1 dL_law_710 ?_
    refine rr_aload_n 0 dL_law_711 rfl ?_
    refine rr_iload_n 3 dL_law_712 rfl ?_
    refine rr_iconst dL_law_713 ?_
    refine rr_iadd dL_law_714 ?_
    refine rr_sldZ (y := y2) (i + 2) (by omega) (by omega) (by omega) ey2 dL_law_715 ?_
    refine rr_aload_n 0 dL_law_716 rfl ?_
    refine rr_iload_n 3 dL_law_717 rfl ?_
    refine rr_iconst dL_law_718 ?_
    refine rr_iadd dL_law_719 ?_
    refine rr_sldZ (y := y3) (i + 3) (by omega) (by omega) (by omega) ey3 dL_law_720 ?_
    refine rr_callF (wr := [(s, ob 3 [.ref sg, .ref nm, .int (zz ↑len), .int (zz ↑at_)]), (sg, aC E 200 tx), (nm, aI E 4 t), (p, ob 2 [.ref pK, .ref pL, .ref pQ, .ref pW, .ref pX, .ref pY, .ref pS, .int (zz ↑np), .int (zz ↑nr)]), (pK, aI E 7 kd), (pL, aI E 7 lf), (pQ, aI E 7 qt), (pW, aI E 10 wd), (pX, aI E 6 rx), (pY, aI E 6 ry), (pS, hO sh), (z, ob 2 [.ref zK, .ref zL, .ref zQ, .ref zW, .ref zX, .ref zY, .ref zS, .int (zz ↑np0), .int (zz ↑nr0)]), (zK, aI E 7 kd0), (zL, aI E 7 lf0), (zQ, aI E 7 qt0), (zW, aI E 10 wd0), (zX, aI E 6 rx0), (zY, aI E 6 ry0), (zS, hO sh0), (a, hO h), (b, hO g0), (c, hO g00), (f, ob 4 [.ref ar, .int (zz ↑sz)]), (ar, aH E 8 (fun i => some (u i))), ((u 0), hO (g 0)), ((u 1), hO (g 1)), ((u 2), hO (g 2)), ((u 3), hO (g 3)), ((u 4), hO (g 4)), ((u 5), hO (g 5)), ((u 6), hO (g 6)), ((u 7), hO (g 7)), (k, ob 4 [.ref ar2, .int (zz ↑sz2)]), (ar2, aH E 2 (fun i => some (u2 i))), ((u2 0), hO (g2 0)), ((u2 1), hO (g2 1)), (q, ob 5 [.ref qp, .ref qc, .ref qv, .int (zz ↑ns)]), (qp, aI E 6 sp), (qc, aI E 6 sc), (qv, aI E 6 sv), (o, ob 1 [.ref p, .ref fl, .ref ln, .ref mt, .int (zz ↑fr), .int (zz (↑(Q.length)))]), (fl, hO f0), (ln, aI E 8000 lin), (mt, aI E 250 mts)]) (call_V (q0 := 0) kL_109 (c_flight_bad E 15 x s p z a b c f k q o y1 y2 y3 g1 g2_ g3 hc) rfl rfl rfl rfl (by omega) (by decide) (Nat.le_of_ble_eq_true rfl) (Nat.le_of_ble_eq_true rfl) dL_law_721) hcw (perm_idx [0, 1, 2, 3, 4, 5, 6, 7, 8, 9, 10, 11, 12, 13, 14, 15, 16, 17, 18, 19, 20, 21, 22, 23, 24, 25, 26, 27, 28, 29, 30, 31, 32, 33, 34, 35, 36, 37, 38, 39, 40, 41, 42, 43, 44] 45 rfl rfl rfl) (fun v w1 hp1 => ?_)
    obtain ⟨rfl, rfl⟩ := hp1
    refine rr_aload_n 2 dL_law_724 rfl ?_
    refine rr_aload_n 0 dL_law_725 rfl ?_
    refine rr_iload_n 3 dL_law_726 rfl ?_
    refine rr_iconst dL_law_727 ?_
    refine rr_iadd dL_law_728 ?_
    refine rr_sldZ (y := y1) (i + 1) (by omega) (by omega) (by omega) ey1 dL_law_729 ?_
    refine rr_aload_n 0 dL_law_730 rfl ?_
    refine rr_iload_n 3 dL_law_731 rfl ?_
    refine rr_iconst dL_law_732 ?_
    refine rr_iadd dL_law_733 ?_
    refine rr_sldZ (y := y2) (i + 2) (by omega) (by omega) (by omega) ey2 dL_law_734 ?_
    refine rr_aload_n 0 dL_law_735 rfl ?_
    refine rr_iload_n 3 dL_law_736 rfl ?_
    refine rr_iconst dL_law_737 ?_
    refine rr_iadd dL_law_738 ?_
    refine rr_sldZ (y := y3) (i + 3) (by omega) (by omega) (by omega) ey3 dL_law_739 ?_
    refine rr_callG (wr := [(mP, aI E 21 pg), (mW, aI E 10 wn), (mR, aI E 12 ro), (mB, aI E 7 bg), (mS, aI E 7 st), (mA, aI E 56 was), (mK, aI E 14 kp), (mE, aI E 18 sn), (mT, aI E 200 tx2), (mD, aI E 4 mtd), (nP, aI E 21 rpg), (nW, aI E 10 rwn), (nR, aI E 12 rro), (nB, aI E 7 rbg), (mN, aI E 7 nw), (mO, aI E 7 rw), (mQ, aI E 49 rs), (mX, aI E 7 ot)]) (call_V (q0 := 0) kL_112 (c_Mflight_bad E 15 m mP mW mR mB mS mA mK mE mT mD nP nW nR nB mN mO mQ mX np nr sz sz2 ns len mat rp rr dp y1 y2 y3 g1 g2_ g3 hc) rfl rfl rfl rfl (by omega) (by decide) (Nat.le_of_ble_eq_true rfl) (Nat.le_of_ble_eq_true rfl) dL_law_740) hmw (perm_idx [0, 1, 2, 3, 4, 5, 6, 7, 8, 9, 10, 11, 12, 13, 14, 15, 16, 17, 18] 19 rfl rfl rfl) (fun v2 w2 hp2 => ?_)
    obtain ⟨rfl, rfl⟩ := hp2
    refine RR.eq (st2 := [Value.int _, Value.int _]) rfl rfl rfl rfl ?_
    refine rr_eqT 797 dL_law_743 (by decide) rfl ?_
    refine K _ (INV_mk E x m len tx np kd lf qt wd nr rx ry sh h sz g sz2 g2 ns sp sc sv tx2 pg wn ro bg st was kp sn hlen hp hr hsh hs4 hs6 hnp ho hv hsz hg hsz2 hg2 hso etx epl ero ebg est ewa ekp esn ?_ ?_)
    · exact ⟨s, p, z, a, b, c, f, k, q, o, sg, nm, at_, t, pK, pL, pQ, pW, pX, pY, pS, zK, zL, zQ, zW, zX, zY, zS, np0, nr0, kd0, lf0, qt0, wd0, rx0, ry0, sh0, g0, g00, ar, ar2, u, u2, qp, qc, qv, fl, ln, mt, fr, Q, f0, lin, mts, hnm, h04, h06, perm_idx [0, 1, 2, 3, 4, 5, 6, 7, 8, 9, 10, 11, 12, 13, 14, 15, 16, 17, 18, 19, 20, 21, 22, 23, 24, 25, 26, 27, 28, 29, 30, 31, 32, 33, 34, 35, 36, 37, 38, 39, 40, 41, 42, 43, 44] 45 rfl rfl rfl⟩
    · exact ⟨mP, mW, mR, mB, mS, mA, mK, mE, mT, mD, nP, nW, nR, nB, mN, mO, mQ, mX, mat, mtd, rp, rr, rpg, rwn, rro, rbg, nw, rw, rs, dp, ot, hnmM, perm_idx [0, 1, 2, 3, 4, 5, 6, 7, 8, 9, 10, 11, 12, 13, 14, 15, 16, 17, 18] 19 rfl rfl rfl⟩
set_option maxRecDepth 100000 in
set_option maxHeartbeats 1000000 in
theorem lw_keep {E : Ev} {x m i kc ks : Nat} {ws : va_W} {post : Option Value → va_W → Prop} (hL : eL E ≤ 256) (hi : i + 4 ≤ eL E) (hJ : INV E x m ws) (K : ∀ ws2 : va_W, INV E x m ws2 → RR E mL_law 20 kc ks 797 [(0, .ref (eB E)), (1, .ref x), (2, .ref m), (3, .int (zz (i : Int)))] [] ws2 post) : RR E mL_law 20 kc ks 748 [(0, .ref (eB E)), (1, .ref x), (2, .ref m), (3, .int (zz (i : Int)))] [] ws post := by
  obtain ⟨len, tx, np, kd, lf, qt, wd, nr, rx, ry, sh, h, sz, g, sz2, g2, ns, sp, sc, sv, tx2, pg, wn, ro, bg, st, was, kp, sn, cw, mw, hlen, hp, hr, hsh, hs4, hs6, hnp, ho, hv, hsz, hg, hsz2, hg2, hso, etx, epl, ero, ebg, est, ewa, ekp, esn, hC, hM, rfl⟩ := hJ
  obtain ⟨s, p, z, a, b, c, f, k, q, o, sg, nm, at_, t, pK, pL, pQ, pW, pX, pY, pS, zK, zL, zQ, zW, zX, zY, zS, np0, nr0, kd0, lf0, qt0, wd0, rx0, ry0, sh0, g0, g00, ar, ar2, u, u2, qp, qc, qv, fl, ln, mt, fr, Q, f0, lin, mts, hnm, h04, h06, hcw⟩ := hC
  obtain ⟨mP, mW, mR, mB, mS, mA, mK, mE, mT, mD, nP, nW, nR, nB, mN, mO, mQ, mX, mat, mtd, rp, rr, rpg, rwn, rro, rbg, nw, rw, rs, dp, ot, hnmM, hmw⟩ := hM
  by_cases hk : sz2 < 2
  · skip
    refine rr_aload_n 1 dL_law_748 rfl ?_
    refine rr_callF (wr := [(s, ob 3 [.ref sg, .ref nm, .int (zz ↑len), .int (zz ↑at_)]), (sg, aC E 200 tx), (nm, aI E 4 t), (p, ob 2 [.ref pK, .ref pL, .ref pQ, .ref pW, .ref pX, .ref pY, .ref pS, .int (zz ↑np), .int (zz ↑nr)]), (pK, aI E 7 kd), (pL, aI E 7 lf), (pQ, aI E 7 qt), (pW, aI E 10 wd), (pX, aI E 6 rx), (pY, aI E 6 ry), (pS, hO sh), (z, ob 2 [.ref zK, .ref zL, .ref zQ, .ref zW, .ref zX, .ref zY, .ref zS, .int (zz ↑np0), .int (zz ↑nr0)]), (zK, aI E 7 kd0), (zL, aI E 7 lf0), (zQ, aI E 7 qt0), (zW, aI E 10 wd0), (zX, aI E 6 rx0), (zY, aI E 6 ry0), (zS, hO sh0), (b, hO g0), (c, hO g00), (f, ob 4 [.ref ar, .int (zz ↑sz)]), (ar, aH E 8 (fun i => some (u i))), ((u 0), hO (g 0)), ((u 1), hO (g 1)), ((u 2), hO (g 2)), ((u 3), hO (g 3)), ((u 4), hO (g 4)), ((u 5), hO (g 5)), ((u 6), hO (g 6)), ((u 7), hO (g 7)), (q, ob 5 [.ref qp, .ref qc, .ref qv, .int (zz ↑ns)]), (qp, aI E 6 sp), (qc, aI E 6 sc), (qv, aI E 6 sv), (o, ob 1 [.ref p, .ref fl, .ref ln, .ref mt, .int (zz ↑fr), .int (zz (↑(Q.length)))]), (fl, hO f0), (ln, aI E 8000 lin), (mt, aI E 250 mts)]) (call_V (q0 := 0) kL_113 (c_keep_y E 17 x s p z a b c f k q o ar2 u2 g2 sz2 h hk) rfl rfl rfl rfl (by omega) (by decide) (Nat.le_of_ble_eq_true rfl) (Nat.le_of_ble_eq_true rfl) dL_law_749) hcw (perm_idx [0, 33, 34, 35, 36, 20, 1, 2, 3, 4, 5, 6, 7, 8, 9, 10, 11, 12, 13, 14, 15, 16, 17, 18, 19, 21, 22, 23, 24, 25, 26, 27, 28, 29, 30, 31, 32, 37, 38, 39, 40, 41, 42, 43, 44] 45 rfl rfl rfl) (fun v w1 hp1 => ?_)
    obtain ⟨rfl, rfl⟩ := hp1
    refine rr_aload_n 2 dL_law_752 rfl ?_
    refine rr_callG (wr := [(mP, aI E 21 pg), (mW, aI E 10 wn), (mR, aI E 12 ro), (mB, aI E 7 bg), (mA, aI E 56 was), (mE, aI E 18 sn), (mT, aI E 200 tx2), (mD, aI E 4 mtd), (nP, aI E 21 rpg), (nW, aI E 10 rwn), (nR, aI E 12 rro), (nB, aI E 7 rbg), (mN, aI E 7 nw), (mO, aI E 7 rw), (mQ, aI E 49 rs), (mX, aI E 7 ot)]) (call_V (q0 := 0) kL_116 (c_Mkeep_y E 18 m mP mW mR mB mS mA mK mE mT mD nP nW nR nB mN mO mQ mX np nr sz sz2 ns len mat rp rr dp kp st hk) rfl rfl rfl rfl (by omega) (by decide) (Nat.le_of_ble_eq_true rfl) (Nat.le_of_ble_eq_true rfl) dL_law_753) hmw (perm_idx [0, 7, 5, 1, 2, 3, 4, 6, 8, 9, 10, 11, 12, 13, 14, 15, 16, 17, 18] 19 rfl rfl rfl) (fun v2 w2 hp2 => ?_)
    obtain ⟨rfl, rfl⟩ := hp2
    refine RR.eq (st2 := [Value.int _, Value.int _]) rfl rfl rfl rfl ?_
    refine rr_eqT 797 dL_law_756 (by decide) rfl ?_
    refine K _ (INV_mk E x m len tx np kd lf qt wd nr rx ry sh h sz g (sz2 + 1) (updG g2 sz2 h) ns sp sc sv tx2 pg wn ro bg st was (cpI kp (7 * sz2) st 0 7) sn hlen hp hr hsh hs4 hs6 hnp ho hv hsz hg (by omega) (updG_all (Q := fun h => hOK h ∧ hV np h) hg2 ⟨ho, hv⟩) hso etx epl ero ebg est ewa (WL_add ekp est) esn ?_ ?_)
    · exact ⟨s, p, z, a, b, c, f, k, q, o, sg, nm, at_, t, pK, pL, pQ, pW, pX, pY, pS, zK, zL, zQ, zW, zX, zY, zS, np0, nr0, kd0, lf0, qt0, wd0, rx0, ry0, sh0, g0, g00, ar, ar2, u, u2, qp, qc, qv, fl, ln, mt, fr, Q, f0, lin, mts, hnm, h04, h06, perm_idx [0, 6, 7, 8, 9, 10, 11, 12, 13, 14, 15, 16, 17, 18, 19, 20, 21, 22, 23, 24, 5, 25, 26, 27, 28, 29, 30, 31, 32, 33, 34, 35, 36, 1, 2, 3, 4, 37, 38, 39, 40, 41, 42, 43, 44] 45 rfl rfl rfl⟩
    · exact ⟨mP, mW, mR, mB, mS, mA, mK, mE, mT, mD, nP, nW, nR, nB, mN, mO, mQ, mX, mat, mtd, rp, rr, rpg, rwn, rro, rbg, nw, rw, rs, dp, ot, hnmM, perm_idx [0, 3, 4, 5, 6, 2, 7, 1, 8, 9, 10, 11, 12, 13, 14, 15, 16, 17, 18] 19 rfl rfl rfl⟩
  · skip
    obtain rfl : sz2 = 2 := by omega
    refine rr_aload_n 1 dL_law_748 rfl ?_
    refine rr_callF (wr := [(s, ob 3 [.ref sg, .ref nm, .int (zz ↑len), .int (zz ↑at_)]), (sg, aC E 200 tx), (nm, aI E 4 t), (p, ob 2 [.ref pK, .ref pL, .ref pQ, .ref pW, .ref pX, .ref pY, .ref pS, .int (zz ↑np), .int (zz ↑nr)]), (pK, aI E 7 kd), (pL, aI E 7 lf), (pQ, aI E 7 qt), (pW, aI E 10 wd), (pX, aI E 6 rx), (pY, aI E 6 ry), (pS, hO sh), (z, ob 2 [.ref zK, .ref zL, .ref zQ, .ref zW, .ref zX, .ref zY, .ref zS, .int (zz ↑np0), .int (zz ↑nr0)]), (zK, aI E 7 kd0), (zL, aI E 7 lf0), (zQ, aI E 7 qt0), (zW, aI E 10 wd0), (zX, aI E 6 rx0), (zY, aI E 6 ry0), (zS, hO sh0), (a, hO h), (b, hO g0), (c, hO g00), (f, ob 4 [.ref ar, .int (zz ↑sz)]), (ar, aH E 8 (fun i => some (u i))), ((u 0), hO (g 0)), ((u 1), hO (g 1)), ((u 2), hO (g 2)), ((u 3), hO (g 3)), ((u 4), hO (g 4)), ((u 5), hO (g 5)), ((u 6), hO (g 6)), ((u 7), hO (g 7)), ((u2 0), hO (g2 0)), ((u2 1), hO (g2 1)), (q, ob 5 [.ref qp, .ref qc, .ref qv, .int (zz ↑ns)]), (qp, aI E 6 sp), (qc, aI E 6 sc), (qv, aI E 6 sv), (o, ob 1 [.ref p, .ref fl, .ref ln, .ref mt, .int (zz ↑fr), .int (zz (↑(Q.length)))]), (fl, hO f0), (ln, aI E 8000 lin), (mt, aI E 250 mts)]) (call_V (q0 := 0) kL_113 (c_keep_full E 17 x s p z a b c f k q o ar2 u2) rfl rfl rfl rfl (by omega) (by decide) (Nat.le_of_ble_eq_true rfl) (Nat.le_of_ble_eq_true rfl) dL_law_749) hcw (perm_idx [0, 33, 34, 1, 2, 3, 4, 5, 6, 7, 8, 9, 10, 11, 12, 13, 14, 15, 16, 17, 18, 19, 20, 21, 22, 23, 24, 25, 26, 27, 28, 29, 30, 31, 32, 35, 36, 37, 38, 39, 40, 41, 42, 43, 44] 45 rfl rfl rfl) (fun v w1 hp1 => ?_)
    obtain ⟨rfl, rfl⟩ := hp1
    refine rr_aload_n 2 dL_law_752 rfl ?_
    refine rr_callG (wr := [(mP, aI E 21 pg), (mW, aI E 10 wn), (mR, aI E 12 ro), (mB, aI E 7 bg), (mS, aI E 7 st), (mA, aI E 56 was), (mK, aI E 14 kp), (mE, aI E 18 sn), (mT, aI E 200 tx2), (mD, aI E 4 mtd), (nP, aI E 21 rpg), (nW, aI E 10 rwn), (nR, aI E 12 rro), (nB, aI E 7 rbg), (mN, aI E 7 nw), (mO, aI E 7 rw), (mQ, aI E 49 rs), (mX, aI E 7 ot)]) (call_V (q0 := 0) kL_116 (c_Mkeep_full E 18 m mP mW mR mB mS mA mK mE mT mD nP nW nR nB mN mO mQ mX np nr sz 2 ns len mat rp rr dp rfl) rfl rfl rfl rfl (by omega) (by decide) (Nat.le_of_ble_eq_true rfl) (Nat.le_of_ble_eq_true rfl) dL_law_753) hmw (perm_idx [0, 1, 2, 3, 4, 5, 6, 7, 8, 9, 10, 11, 12, 13, 14, 15, 16, 17, 18] 19 rfl rfl rfl) (fun v2 w2 hp2 => ?_)
    obtain ⟨rfl, rfl⟩ := hp2
    refine RR.eq (st2 := [Value.int _, Value.int _]) rfl rfl rfl rfl ?_
    refine rr_eqT 797 dL_law_756 (by decide) rfl ?_
    refine K _ (INV_mk E x m len tx np kd lf qt wd nr rx ry sh h sz g 2 g2 ns sp sc sv tx2 pg wn ro bg st was kp sn hlen hp hr hsh hs4 hs6 hnp ho hv hsz hg hsz2 hg2 hso etx epl ero ebg est ewa ekp esn ?_ ?_)
    · exact ⟨s, p, z, a, b, c, f, k, q, o, sg, nm, at_, t, pK, pL, pQ, pW, pX, pY, pS, zK, zL, zQ, zW, zX, zY, zS, np0, nr0, kd0, lf0, qt0, wd0, rx0, ry0, sh0, g0, g00, ar, ar2, u, u2, qp, qc, qv, fl, ln, mt, fr, Q, f0, lin, mts, hnm, h04, h06, perm_idx [0, 3, 4, 5, 6, 7, 8, 9, 10, 11, 12, 13, 14, 15, 16, 17, 18, 19, 20, 21, 22, 23, 24, 25, 26, 27, 28, 29, 30, 31, 32, 33, 34, 1, 2, 35, 36, 37, 38, 39, 40, 41, 42, 43, 44] 45 rfl rfl rfl⟩
    · exact ⟨mP, mW, mR, mB, mS, mA, mK, mE, mT, mD, nP, nW, nR, nB, mN, mO, mQ, mX, mat, mtd, rp, rr, rpg, rwn, rro, rbg, nw, rw, rs, dp, ot, hnmM, perm_idx [0, 1, 2, 3, 4, 5, 6, 7, 8, 9, 10, 11, 12, 13, 14, 15, 16, 17, 18] 19 rfl rfl rfl⟩
set_option maxRecDepth 100000 in
set_option maxHeartbeats 1000000 in
theorem lw_back {E : Ev} {x m i kc ks : Nat} {ws : va_W} {post : Option Value → va_W → Prop} (hL : eL E ≤ 256) (hi : i + 4 ≤ eL E) (hJ : INV E x m ws) (K : ∀ ws2 : va_W, INV E x m ws2 → RR E mL_law 20 kc ks 797 [(0, .ref (eB E)), (1, .ref x), (2, .ref m), (3, .int (zz (i : Int)))] [] ws2 post) : RR E mL_law 20 kc ks 761 [(0, .ref (eB E)), (1, .ref x), (2, .ref m), (3, .int (zz (i : Int)))] [] ws post := by
  obtain ⟨len, tx, np, kd, lf, qt, wd, nr, rx, ry, sh, h, sz, g, sz2, g2, ns, sp, sc, sv, tx2, pg, wn, ro, bg, st, was, kp, sn, cw, mw, hlen, hp, hr, hsh, hs4, hs6, hnp, ho, hv, hsz, hg, hsz2, hg2, hso, etx, epl, ero, ebg, est, ewa, ekp, esn, hC, hM, rfl⟩ := hJ
  obtain ⟨s, p, z, a, b, c, f, k, q, o, sg, nm, at_, t, pK, pL, pQ, pW, pX, pY, pS, zK, zL, zQ, zW, zX, zY, zS, np0, nr0, kd0, lf0, qt0, wd0, rx0, ry0, sh0, g0, g00, ar, ar2, u, u2, qp, qc, qv, fl, ln, mt, fr, Q, f0, lin, mts, hnm, h04, h06, hcw⟩ := hC
  obtain ⟨mP, mW, mR, mB, mS, mA, mK, mE, mT, mD, nP, nW, nR, nB, mN, mO, mQ, mX, mat, mtd, rp, rr, rpg, rwn, rro, rbg, nw, rw, rs, dp, ot, hnmM, hmw⟩ := hM
  by_cases hz : sz2 = 0
  · skip
    subst hz
    refine rr_aload_n 1 dL_law_761 rfl ?_
    refine rr_callF (wr := [(s, ob 3 [.ref sg, .ref nm, .int (zz ↑len), .int (zz ↑at_)]), (sg, aC E 200 tx), (nm, aI E 4 t), (p, ob 2 [.ref pK, .ref pL, .ref pQ, .ref pW, .ref pX, .ref pY, .ref pS, .int (zz ↑np), .int (zz ↑nr)]), (pK, aI E 7 kd), (pL, aI E 7 lf), (pQ, aI E 7 qt), (pW, aI E 10 wd), (pX, aI E 6 rx), (pY, aI E 6 ry), (pS, hO sh), (z, ob 2 [.ref zK, .ref zL, .ref zQ, .ref zW, .ref zX, .ref zY, .ref zS, .int (zz ↑np0), .int (zz ↑nr0)]), (zK, aI E 7 kd0), (zL, aI E 7 lf0), (zQ, aI E 7 qt0), (zW, aI E 10 wd0), (zX, aI E 6 rx0), (zY, aI E 6 ry0), (zS, hO sh0), (b, hO g0), (c, hO g00), (f, ob 4 [.ref ar, .int (zz ↑sz)]), (ar, aH E 8 (fun i => some (u i))), ((u 0), hO (g 0)), ((u 1), hO (g 1)), ((u 2), hO (g 2)), ((u 3), hO (g 3)), ((u 4), hO (g 4)), ((u 5), hO (g 5)), ((u 6), hO (g 6)), ((u 7), hO (g 7)), (q, ob 5 [.ref qp, .ref qc, .ref qv, .int (zz ↑ns)]), (qp, aI E 6 sp), (qc, aI E 6 sc), (qv, aI E 6 sv), (o, ob 1 [.ref p, .ref fl, .ref ln, .ref mt, .int (zz ↑fr), .int (zz (↑(Q.length)))]), (fl, hO f0), (ln, aI E 8000 lin), (mt, aI E 250 mts)]) (call_V (q0 := 0) kL_117 (c_back_no E 17 x s p z a b c f k q o ar2 u2 g2 h) rfl rfl rfl rfl (by omega) (by decide) (Nat.le_of_ble_eq_true rfl) (Nat.le_of_ble_eq_true rfl) dL_law_762) hcw (perm_idx [0, 33, 34, 35, 36, 20, 1, 2, 3, 4, 5, 6, 7, 8, 9, 10, 11, 12, 13, 14, 15, 16, 17, 18, 19, 21, 22, 23, 24, 25, 26, 27, 28, 29, 30, 31, 32, 37, 38, 39, 40, 41, 42, 43, 44] 45 rfl rfl rfl) (fun v w1 hp1 => ?_)
    obtain ⟨rfl, rfl⟩ := hp1
    refine rr_aload_n 2 dL_law_765 rfl ?_
    refine rr_callG (wr := [(mP, aI E 21 pg), (mW, aI E 10 wn), (mR, aI E 12 ro), (mB, aI E 7 bg), (mS, aI E 7 st), (mA, aI E 56 was), (mK, aI E 14 kp), (mE, aI E 18 sn), (mT, aI E 200 tx2), (mD, aI E 4 mtd), (nP, aI E 21 rpg), (nW, aI E 10 rwn), (nR, aI E 12 rro), (nB, aI E 7 rbg), (mN, aI E 7 nw), (mO, aI E 7 rw), (mQ, aI E 49 rs), (mX, aI E 7 ot)]) (call_V (q0 := 0) kL_120 (c_Mback_no E 18 m mP mW mR mB mS mA mK mE mT mD nP nW nR nB mN mO mQ mX np nr sz 0 ns len mat rp rr dp rfl) rfl rfl rfl rfl (by omega) (by decide) (Nat.le_of_ble_eq_true rfl) (Nat.le_of_ble_eq_true rfl) dL_law_766) hmw (perm_idx [0, 1, 2, 3, 4, 5, 6, 7, 8, 9, 10, 11, 12, 13, 14, 15, 16, 17, 18] 19 rfl rfl rfl) (fun v2 w2 hp2 => ?_)
    obtain ⟨rfl, rfl⟩ := hp2
    refine RR.eq (st2 := [Value.int _, Value.int _]) rfl rfl rfl rfl ?_
    refine rr_eqT 797 dL_law_769 (by decide) rfl ?_
    refine K _ (INV_mk E x m len tx np kd lf qt wd nr rx ry sh h sz g 0 g2 ns sp sc sv tx2 pg wn ro bg st was kp sn hlen hp hr hsh hs4 hs6 hnp ho hv hsz hg hsz2 hg2 hso etx epl ero ebg est ewa ekp esn ?_ ?_)
    · exact ⟨s, p, z, a, b, c, f, k, q, o, sg, nm, at_, t, pK, pL, pQ, pW, pX, pY, pS, zK, zL, zQ, zW, zX, zY, zS, np0, nr0, kd0, lf0, qt0, wd0, rx0, ry0, sh0, g0, g00, ar, ar2, u, u2, qp, qc, qv, fl, ln, mt, fr, Q, f0, lin, mts, hnm, h04, h06, perm_idx [0, 6, 7, 8, 9, 10, 11, 12, 13, 14, 15, 16, 17, 18, 19, 20, 21, 22, 23, 24, 5, 25, 26, 27, 28, 29, 30, 31, 32, 33, 34, 35, 36, 1, 2, 3, 4, 37, 38, 39, 40, 41, 42, 43, 44] 45 rfl rfl rfl⟩
    · exact ⟨mP, mW, mR, mB, mS, mA, mK, mE, mT, mD, nP, nW, nR, nB, mN, mO, mQ, mX, mat, mtd, rp, rr, rpg, rwn, rro, rbg, nw, rw, rs, dp, ot, hnmM, perm_idx [0, 1, 2, 3, 4, 5, 6, 7, 8, 9, 10, 11, 12, 13, 14, 15, 16, 17, 18] 19 rfl rfl rfl⟩
  · skip
    obtain ⟨n, rfl⟩ : ∃ n : Nat, sz2 = n + 1 := ⟨sz2 - 1, by omega⟩
    refine rr_aload_n 1 dL_law_761 rfl ?_
    refine rr_callF (wr := [(s, ob 3 [.ref sg, .ref nm, .int (zz ↑len), .int (zz ↑at_)]), (sg, aC E 200 tx), (nm, aI E 4 t), (p, ob 2 [.ref pK, .ref pL, .ref pQ, .ref pW, .ref pX, .ref pY, .ref pS, .int (zz ↑np), .int (zz ↑nr)]), (pK, aI E 7 kd), (pL, aI E 7 lf), (pQ, aI E 7 qt), (pW, aI E 10 wd), (pX, aI E 6 rx), (pY, aI E 6 ry), (pS, hO sh), (z, ob 2 [.ref zK, .ref zL, .ref zQ, .ref zW, .ref zX, .ref zY, .ref zS, .int (zz ↑np0), .int (zz ↑nr0)]), (zK, aI E 7 kd0), (zL, aI E 7 lf0), (zQ, aI E 7 qt0), (zW, aI E 10 wd0), (zX, aI E 6 rx0), (zY, aI E 6 ry0), (zS, hO sh0), (b, hO g0), (c, hO g00), (ar, aH E 8 (fun i => some (u i))), ((u 0), hO (g 0)), ((u 1), hO (g 1)), ((u 2), hO (g 2)), ((u 3), hO (g 3)), ((u 4), hO (g 4)), ((u 5), hO (g 5)), ((u 6), hO (g 6)), ((u 7), hO (g 7)), (q, ob 5 [.ref qp, .ref qc, .ref qv, .int (zz ↑ns)]), (qp, aI E 6 sp), (qc, aI E 6 sc), (qv, aI E 6 sv), (o, ob 1 [.ref p, .ref fl, .ref ln, .ref mt, .int (zz ↑fr), .int (zz (↑(Q.length)))]), (fl, hO f0), (ln, aI E 8000 lin), (mt, aI E 250 mts)]) (call_V (q0 := 0) kL_117 (c_back_y E 17 x s p z a b c f k q o ar sz ar2 u2 g2 n h (by omega)) rfl rfl rfl rfl (by omega) (by decide) (Nat.le_of_ble_eq_true rfl) (Nat.le_of_ble_eq_true rfl) dL_law_762) hcw (perm_idx [0, 23, 33, 34, 35, 36, 20, 1, 2, 3, 4, 5, 6, 7, 8, 9, 10, 11, 12, 13, 14, 15, 16, 17, 18, 19, 21, 22, 24, 25, 26, 27, 28, 29, 30, 31, 32, 37, 38, 39, 40, 41, 42, 43, 44] 45 rfl rfl rfl) (fun v w1 hp1 => ?_)
    obtain ⟨rfl, rfl⟩ := hp1
    refine rr_aload_n 2 dL_law_765 rfl ?_
    refine rr_callG (wr := [(mP, aI E 21 pg), (mW, aI E 10 wn), (mR, aI E 12 ro), (mB, aI E 7 bg), (mA, aI E 56 was), (mE, aI E 18 sn), (mT, aI E 200 tx2), (mD, aI E 4 mtd), (nP, aI E 21 rpg), (nW, aI E 10 rwn), (nR, aI E 12 rro), (nB, aI E 7 rbg), (mN, aI E 7 nw), (mO, aI E 7 rw), (mQ, aI E 49 rs), (mX, aI E 7 ot)]) (call_V (q0 := 0) kL_120 (c_Mback_y E 18 m mP mW mR mB mS mA mK mE mT mD nP nW nR nB mN mO mQ mX np nr sz (n + 1) ns len mat rp rr dp kp st n (by omega) rfl) rfl rfl rfl rfl (by omega) (by decide) (Nat.le_of_ble_eq_true rfl) (Nat.le_of_ble_eq_true rfl) dL_law_766) hmw (perm_idx [0, 5, 7, 1, 2, 3, 4, 6, 8, 9, 10, 11, 12, 13, 14, 15, 16, 17, 18] 19 rfl rfl rfl) (fun v2 w2 hp2 => ?_)
    obtain ⟨rfl, rfl⟩ := hp2
    refine RR.eq (st2 := [Value.int _, Value.int _]) rfl rfl rfl rfl ?_
    refine rr_eqT 797 dL_law_769 (by decide) rfl ?_
    refine K _ (INV_mk E x m len tx np kd lf qt wd nr rx ry sh (g2 n) 0 g n g2 ns sp sc sv tx2 pg wn ro bg (cpI st 0 kp (7 * n) 7) was kp sn hlen hp hr hsh hs4 hs6 hnp ((hg2 n (by omega)).1) ((hg2 n (by omega)).2) (Nat.zero_le _) (fun j hj => absurd hj (Nat.not_lt_zero j)) (by omega) (fun j hj => hg2 j (by omega)) hso etx epl ero ebg (cp7o (fun i hi => ekp n (by omega) i hi)) (fun j hj => absurd hj (Nat.not_lt_zero j)) (fun k hk => ekp k (by omega)) esn ?_ ?_)
    · exact ⟨s, p, z, a, b, c, f, k, q, o, sg, nm, at_, t, pK, pL, pQ, pW, pX, pY, pS, zK, zL, zQ, zW, zX, zY, zS, np0, nr0, kd0, lf0, qt0, wd0, rx0, ry0, sh0, g0, g00, ar, ar2, u, u2, qp, qc, qv, fl, ln, mt, fr, Q, f0, lin, mts, hnm, h04, h06, perm_idx [0, 7, 8, 9, 10, 11, 12, 13, 14, 15, 16, 17, 18, 19, 20, 21, 22, 23, 24, 25, 6, 26, 27, 1, 28, 29, 30, 31, 32, 33, 34, 35, 36, 2, 3, 4, 5, 37, 38, 39, 40, 41, 42, 43, 44] 45 rfl rfl rfl⟩
    · exact ⟨mP, mW, mR, mB, mS, mA, mK, mE, mT, mD, nP, nW, nR, nB, mN, mO, mQ, mX, mat, mtd, rp, rr, rpg, rwn, rro, rbg, nw, rw, rs, dp, ot, hnmM, perm_idx [0, 3, 4, 5, 6, 1, 7, 2, 8, 9, 10, 11, 12, 13, 14, 15, 16, 17, 18] 19 rfl rfl rfl⟩
set_option maxRecDepth 100000 in
set_option maxHeartbeats 1000000 in
theorem lw_count {E : Ev} {x m i kc ks : Nat} {ws : va_W} {post : Option Value → va_W → Prop} (hL : eL E ≤ 256) (hi : i + 4 ≤ eL E) (hJ : INV E x m ws) (K : ∀ ws2 : va_W, INV E x m ws2 → RR E mL_law 20 kc ks 797 [(0, .ref (eB E)), (1, .ref x), (2, .ref m), (3, .int (zz (i : Int)))] [] ws2 post) : RR E mL_law 20 kc ks 774 [(0, .ref (eB E)), (1, .ref x), (2, .ref m), (3, .int (zz (i : Int)))] [] ws post := by
  obtain ⟨len, tx, np, kd, lf, qt, wd, nr, rx, ry, sh, h, sz, g, sz2, g2, ns, sp, sc, sv, tx2, pg, wn, ro, bg, st, was, kp, sn, cw, mw, hlen, hp, hr, hsh, hs4, hs6, hnp, ho, hv, hsz, hg, hsz2, hg2, hso, etx, epl, ero, ebg, est, ewa, ekp, esn, hC, hM, rfl⟩ := hJ
  obtain ⟨s, p, z, a, b, c, f, k, q, o, sg, nm, at_, t, pK, pL, pQ, pW, pX, pY, pS, zK, zL, zQ, zW, zX, zY, zS, np0, nr0, kd0, lf0, qt0, wd0, rx0, ry0, sh0, g0, g00, ar, ar2, u, u2, qp, qc, qv, fl, ln, mt, fr, Q, f0, lin, mts, hnm, h04, h06, hcw⟩ := hC
  obtain ⟨mP, mW, mR, mB, mS, mA, mK, mE, mT, mD, nP, nW, nR, nB, mN, mO, mQ, mX, mat, mtd, rp, rr, rpg, rwn, rro, rbg, nw, rw, rs, dp, ot, hnmM, hmw⟩ := hM
  obtain ⟨y1, g1, ey1⟩ := zz_of (eX E (i + 1))
  refine rr_aload_n 1 dL_law_774 rfl ?_
  refine rr_aload_n 0 dL_law_775 rfl ?_
  refine rr_iload_n 3 dL_law_776 rfl ?_
  refine rr_iconst dL_law_777 ?_
  refine rr_iadd dL_law_778 ?_
  refine rr_sldZ (y := y1) (i + 1) (by omega) (by omega) (by omega) ey1 dL_law_779 ?_
  refine rr_callF (wr := [(sg, aC E 200 tx), (nm, aI E 4 t), (pK, aI E 7 kd), (pL, aI E 7 lf), (pQ, aI E 7 qt), (pW, aI E 10 wd), (pX, aI E 6 rx), (pY, aI E 6 ry), (pS, hO sh), (z, ob 2 [.ref zK, .ref zL, .ref zQ, .ref zW, .ref zX, .ref zY, .ref zS, .int (zz ↑np0), .int (zz ↑nr0)]), (zK, aI E 7 kd0), (zL, aI E 7 lf0), (zQ, aI E 7 qt0), (zW, aI E 10 wd0), (zX, aI E 6 rx0), (zY, aI E 6 ry0), (zS, hO sh0), (a, hO h), (b, hO g0), (c, hO g00), (ar, aH E 8 (fun i => some (u i))), ((u 0), hO (g 0)), ((u 1), hO (g 1)), ((u 2), hO (g 2)), ((u 3), hO (g 3)), ((u 4), hO (g 4)), ((u 5), hO (g 5)), ((u 6), hO (g 6)), ((u 7), hO (g 7)), (ar2, aH E 2 (fun i => some (u2 i))), ((u2 0), hO (g2 0)), ((u2 1), hO (g2 1)), (qp, aI E 6 sp), (qc, aI E 6 sc), (qv, aI E 6 sv), (o, ob 1 [.ref p, .ref fl, .ref ln, .ref mt, .int (zz ↑fr), .int (zz (↑(Q.length)))]), (fl, hO f0), (ln, aI E 8000 lin), (mt, aI E 250 mts)]) (call_V (q0 := 0) kL_121 (c_count E 19 x s p z a b c f k q o pK pL pQ pW pX pY pS np nr sg nm len tx at_ ar ar2 sz sz2 qp qc qv ns y1 g1) rfl rfl rfl rfl (by omega) (by decide) (Nat.le_of_ble_eq_true rfl) (Nat.le_of_ble_eq_true rfl) dL_law_780) hcw (perm_idx [0, 4, 1, 23, 33, 37, 2, 3, 5, 6, 7, 8, 9, 10, 11, 12, 13, 14, 15, 16, 17, 18, 19, 20, 21, 22, 24, 25, 26, 27, 28, 29, 30, 31, 32, 34, 35, 36, 38, 39, 40, 41, 42, 43, 44] 45 rfl rfl rfl) (fun v w1 hp1 => ?_)
  obtain ⟨rfl, rfl⟩ := hp1
  refine rr_aload_n 2 dL_law_783 rfl ?_
  refine rr_aload_n 0 dL_law_784 rfl ?_
  refine rr_iload_n 3 dL_law_785 rfl ?_
  refine rr_iconst dL_law_786 ?_
  refine rr_iadd dL_law_787 ?_
  refine rr_sldZ (y := y1) (i + 1) (by omega) (by omega) (by omega) ey1 dL_law_788 ?_
  refine rr_callG (wr := [(mP, aI E 21 pg), (mW, aI E 10 wn), (mR, aI E 12 ro), (mB, aI E 7 bg), (mS, aI E 7 st), (mA, aI E 56 was), (mK, aI E 14 kp), (mE, aI E 18 sn), (mT, aI E 200 tx2), (mD, aI E 4 mtd), (nP, aI E 21 rpg), (nW, aI E 10 rwn), (nR, aI E 12 rro), (nB, aI E 7 rbg), (mN, aI E 7 nw), (mO, aI E 7 rw), (mQ, aI E 49 rs), (mX, aI E 7 ot)]) (call_V (q0 := 0) kL_124 (c_Mcount E 19 m mP mW mR mB mS mA mK mE mT mD nP nW nR nB mN mO mQ mX np nr sz sz2 ns len mat rp rr dp y1 g1) rfl rfl rfl rfl (by omega) (by decide) (Nat.le_of_ble_eq_true rfl) (Nat.le_of_ble_eq_true rfl) dL_law_789) hmw (perm_idx [0, 1, 2, 3, 4, 5, 6, 7, 8, 9, 10, 11, 12, 13, 14, 15, 16, 17, 18] 19 rfl rfl rfl) (fun v2 w2 hp2 => ?_)
  obtain ⟨rfl, rfl⟩ := hp2
  refine RR.eq (st2 := [Value.int _, Value.int _]) rfl rfl rfl rfl ?_
  refine rr_eqT 797 dL_law_792 (by decide) rfl ?_
  refine K _ (INV_mk E x m len tx np kd lf qt wd nr rx ry sh h sz g sz2 g2 ns sp sc sv tx2 pg wn ro bg st was kp sn hlen hp hr hsh hs4 hs6 hnp ho hv hsz hg hsz2 hg2 hso etx epl ero ebg est ewa ekp esn ?_ ?_)
  · exact ⟨s, p, z, a, b, c, f, k, q, o, sg, nm, at_, t, pK, pL, pQ, pW, pX, pY, pS, zK, zL, zQ, zW, zX, zY, zS, np0, nr0, kd0, lf0, qt0, wd0, rx0, ry0, sh0, g0, g00, ar, ar2, u, u2, qp, qc, qv, fl, ln, mt, fr, Q, f0, lin, mts, hnm, h04, h06, perm_idx [0, 2, 6, 7, 1, 8, 9, 10, 11, 12, 13, 14, 15, 16, 17, 18, 19, 20, 21, 22, 23, 24, 25, 3, 26, 27, 28, 29, 30, 31, 32, 33, 34, 4, 35, 36, 37, 5, 38, 39, 40, 41, 42, 43, 44] 45 rfl rfl rfl⟩
  · exact ⟨mP, mW, mR, mB, mS, mA, mK, mE, mT, mD, nP, nW, nR, nB, mN, mO, mQ, mX, mat, mtd, rp, rr, rpg, rwn, rro, rbg, nw, rw, rs, dp, ot, hnmM, perm_idx [0, 1, 2, 3, 4, 5, 6, 7, 8, 9, 10, 11, 12, 13, 14, 15, 16, 17, 18] 19 rfl rfl rfl⟩
