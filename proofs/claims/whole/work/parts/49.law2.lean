set_option maxRecDepth 100000 in
set_option maxHeartbeats 1000000 in
theorem lw_setDown {E : Ev} {x m i kc ks : Nat} {ws : va_W} {post : Option Value → va_W → Prop} (hL : eL E ≤ 256) (hi : i + 4 ≤ eL E) (hJ : INV E x m ws) (K : ∀ ws2 : va_W, INV E x m ws2 → RR E mL_law 20 kc ks 797 [(0, .ref (eB E)), (1, .ref x), (2, .ref m), (3, .int (zz (i : Int)))] [] ws2 post) : RR E mL_law 20 kc ks 343 [(0, .ref (eB E)), (1, .ref x), (2, .ref m), (3, .int (zz (i : Int)))] [] ws post := by
  obtain ⟨len, tx, np, kd, lf, qt, wd, nr, rx, ry, sh, h, sz, g, sz2, g2, ns, sp, sc, sv, tx2, pg, wn, ro, bg, st, was, kp, sn, cw, mw, hlen, hp, hr, hsh, hs4, hs6, hnp, ho, hv, hsz, hg, hsz2, hg2, hso, etx, epl, ero, ebg, est, ewa, ekp, esn, hC, hM, rfl⟩ := hJ
  obtain ⟨s, p, z, a, b, c, f, k, q, o, sg, nm, at_, t, pK, pL, pQ, pW, pX, pY, pS, zK, zL, zQ, zW, zX, zY, zS, np0, nr0, kd0, lf0, qt0, wd0, rx0, ry0, sh0, g0, g00, ar, ar2, u, u2, qp, qc, qv, fl, ln, mt, fr, Q, f0, lin, mts, hnm, h04, h06, hcw⟩ := hC
  obtain ⟨mP, mW, mR, mB, mS, mA, mK, mE, mT, mD, nP, nW, nR, nB, mN, mO, mQ, mX, mat, mtd, rp, rr, rpg, rwn, rro, rbg, nw, rw, rs, dp, ot, hnmM, hmw⟩ := hM
  by_cases hc : landF nr rx ry h = true ∧ h 5 = 2
  · skip
    refine rr_aload_n 1 dL_law_343 rfl ?_
    refine rr_callF (wr := [(s, ob 3 [.ref sg, .ref nm, .int (zz ↑len), .int (zz ↑at_)]), (sg, aC E 200 tx), (nm, aI E 4 t), (pK, aI E 7 kd), (pL, aI E 7 lf), (pQ, aI E 7 qt), (pW, aI E 10 wd), (pS, hO sh), (z, ob 2 [.ref zK, .ref zL, .ref zQ, .ref zW, .ref zX, .ref zY, .ref zS, .int (zz ↑np0), .int (zz ↑nr0)]), (zK, aI E 7 kd0), (zL, aI E 7 lf0), (zQ, aI E 7 qt0), (zW, aI E 10 wd0), (zX, aI E 6 rx0), (zY, aI E 6 ry0), (zS, hO sh0), (b, hO g0), (c, hO g00), (k, ob 4 [.ref ar2, .int (zz ↑sz2)]), (ar2, aH E 2 (fun i => some (u2 i))), ((u2 0), hO (g2 0)), ((u2 1), hO (g2 1)), (q, ob 5 [.ref qp, .ref qc, .ref qv, .int (zz ↑ns)]), (qp, aI E 6 sp), (qc, aI E 6 sc), (qv, aI E 6 sv), (o, ob 1 [.ref p, .ref fl, .ref ln, .ref mt, .int (zz ↑fr), .int (zz (↑(Q.length)))]), (fl, hO f0), (ln, aI E 8000 lin), (mt, aI E 250 mts)]) (call_V (q0 := 0) kL_52 (c_setDown_y E 17 x s p z a b c f k q o pK pL pQ pW pX pY pS np nr rx ry h hr ho ar u g sz hsz hc.1 hc.2) rfl rfl rfl rfl (by omega) (by decide) (Nat.le_of_ble_eq_true rfl) (Nat.le_of_ble_eq_true rfl) dL_law_344) hcw (perm_idx [0, 4, 9, 10, 23, 24, 25, 26, 27, 28, 29, 30, 31, 32, 20, 1, 2, 3, 5, 6, 7, 8, 11, 12, 13, 14, 15, 16, 17, 18, 19, 21, 22, 33, 34, 35, 36, 37, 38, 39, 40, 41, 42, 43, 44] 45 rfl rfl rfl) (fun v w1 hp1 => ?_)
    obtain ⟨rfl, u3, rfl⟩ := hp1
    refine rr_aload_n 2 dL_law_347 rfl ?_
    refine rr_callG (wr := [(mP, aI E 21 pg), (mW, aI E 10 wn), (mB, aI E 7 bg), (mK, aI E 14 kp), (mE, aI E 18 sn), (mT, aI E 200 tx2), (mD, aI E 4 mtd), (nP, aI E 21 rpg), (nW, aI E 10 rwn), (nR, aI E 12 rro), (nB, aI E 7 rbg), (mO, aI E 7 rw), (mQ, aI E 49 rs), (mX, aI E 7 ot)]) (call_V (q0 := 0) kL_55 (c_MsetDown_y E 17 m mP mW mR mB mS mA mK mE mT mD nP nW nR nB mN mO mQ mX np nr sz sz2 ns len mat rp rr dp pg wn ro nw st kd lf qt wd rx ry h epl hp ero hr est ho hv was hsz hc.1 hc.2) rfl rfl rfl rfl (by omega) (by decide) (Nat.le_of_ble_eq_true rfl) (Nat.le_of_ble_eq_true rfl) dL_law_348) hmw (perm_idx [0, 3, 15, 5, 6, 1, 2, 4, 7, 8, 9, 10, 11, 12, 13, 14, 16, 17, 18] 19 rfl rfl rfl) (fun v2 w2 hp2 => ?_)
    obtain ⟨rfl, nw2, st2, ha2, rfl⟩ := hp2
    refine RR.eq (st2 := [Value.int _, Value.int _]) rfl rfl rfl rfl ?_
    refine rr_eqT 797 dL_law_351 (by decide) rfl ?_
    refine K _ (INV_mk E x m len tx np kd lf qt wd nr rx ry sh (updI (updI (updI h 5 1) 2 1) 6 (-4)) (putN sz) (putG g sz h) sz2 g2 ns sp sc sv tx2 pg wn ro bg st2 (rmM was sz st) kp sn hlen hp hr hsh hs4 hs6 hnp (hOK_down ho) (Or.inl rfl) ((putN_le hsz).1) (putG_all (Q := fun h => hOK h ∧ hV np h) hsz hg ⟨ho, hv⟩) hsz2 hg2 hso etx epl ero ebg ha2 (rm_rel hsz ewa est) ekp esn ?_ ?_)
    · exact ⟨s, p, z, a, b, c, f, k, q, o, sg, nm, at_, t, pK, pL, pQ, pW, pX, pY, pS, zK, zL, zQ, zW, zX, zY, zS, np0, nr0, kd0, lf0, qt0, wd0, rx0, ry0, sh0, g0, g00, ar, ar2, u3, u2, qp, qc, qv, fl, ln, mt, fr, Q, f0, lin, mts, hnm, h04, h06, perm_idx [0, 15, 16, 17, 1, 18, 19, 20, 21, 2, 3, 22, 23, 24, 25, 26, 27, 28, 29, 30, 14, 31, 32, 4, 5, 6, 7, 8, 9, 10, 11, 12, 13, 33, 34, 35, 36, 37, 38, 39, 40, 41, 42, 43, 44] 45 rfl rfl rfl⟩
    · exact ⟨mP, mW, mR, mB, mS, mA, mK, mE, mT, mD, nP, nW, nR, nB, mN, mO, mQ, mX, mat, mtd, rp, rr, rpg, rwn, rro, rbg, nw2, rw, rs, dp, ot, hnmM, perm_idx [0, 5, 6, 1, 7, 3, 4, 8, 9, 10, 11, 12, 13, 14, 15, 2, 16, 17, 18] 19 rfl rfl rfl⟩
  · skip
    refine rr_aload_n 1 dL_law_343 rfl ?_
    refine rr_callF (wr := [(s, ob 3 [.ref sg, .ref nm, .int (zz ↑len), .int (zz ↑at_)]), (sg, aC E 200 tx), (nm, aI E 4 t), (pK, aI E 7 kd), (pL, aI E 7 lf), (pQ, aI E 7 qt), (pW, aI E 10 wd), (pS, hO sh), (z, ob 2 [.ref zK, .ref zL, .ref zQ, .ref zW, .ref zX, .ref zY, .ref zS, .int (zz ↑np0), .int (zz ↑nr0)]), (zK, aI E 7 kd0), (zL, aI E 7 lf0), (zQ, aI E 7 qt0), (zW, aI E 10 wd0), (zX, aI E 6 rx0), (zY, aI E 6 ry0), (zS, hO sh0), (b, hO g0), (c, hO g00), (f, ob 4 [.ref ar, .int (zz ↑sz)]), (ar, aH E 8 (fun i => some (u i))), ((u 0), hO (g 0)), ((u 1), hO (g 1)), ((u 2), hO (g 2)), ((u 3), hO (g 3)), ((u 4), hO (g 4)), ((u 5), hO (g 5)), ((u 6), hO (g 6)), ((u 7), hO (g 7)), (k, ob 4 [.ref ar2, .int (zz ↑sz2)]), (ar2, aH E 2 (fun i => some (u2 i))), ((u2 0), hO (g2 0)), ((u2 1), hO (g2 1)), (q, ob 5 [.ref qp, .ref qc, .ref qv, .int (zz ↑ns)]), (qp, aI E 6 sp), (qc, aI E 6 sc), (qv, aI E 6 sv), (o, ob 1 [.ref p, .ref fl, .ref ln, .ref mt, .int (zz ↑fr), .int (zz (↑(Q.length)))]), (fl, hO f0), (ln, aI E 8000 lin), (mt, aI E 250 mts)]) (call_V (q0 := 0) kL_52 (c_setDown_no E 17 x s p z a b c f k q o pK pL pQ pW pX pY pS np nr rx ry h hr ho hc) rfl rfl rfl rfl (by omega) (by decide) (Nat.le_of_ble_eq_true rfl) (Nat.le_of_ble_eq_true rfl) dL_law_344) hcw (perm_idx [0, 4, 9, 10, 20, 1, 2, 3, 5, 6, 7, 8, 11, 12, 13, 14, 15, 16, 17, 18, 19, 21, 22, 23, 24, 25, 26, 27, 28, 29, 30, 31, 32, 33, 34, 35, 36, 37, 38, 39, 40, 41, 42, 43, 44] 45 rfl rfl rfl) (fun v w1 hp1 => ?_)
    obtain ⟨rfl, rfl⟩ := hp1
    refine rr_aload_n 2 dL_law_347 rfl ?_
    refine rr_callG (wr := [(mP, aI E 21 pg), (mW, aI E 10 wn), (mB, aI E 7 bg), (mA, aI E 56 was), (mK, aI E 14 kp), (mE, aI E 18 sn), (mT, aI E 200 tx2), (mD, aI E 4 mtd), (nP, aI E 21 rpg), (nW, aI E 10 rwn), (nR, aI E 12 rro), (nB, aI E 7 rbg), (mO, aI E 7 rw), (mQ, aI E 49 rs), (mX, aI E 7 ot)]) (call_V (q0 := 0) kL_55 (c_MsetDown_no E 17 m mP mW mR mB mS mA mK mE mT mD nP nW nR nB mN mO mQ mX np nr sz sz2 ns len mat rp rr dp pg wn ro nw st kd lf qt wd rx ry h epl hp ero hr est ho hv hc) rfl rfl rfl rfl (by omega) (by decide) (Nat.le_of_ble_eq_true rfl) (Nat.le_of_ble_eq_true rfl) dL_law_348) hmw (perm_idx [0, 3, 15, 5, 1, 2, 4, 6, 7, 8, 9, 10, 11, 12, 13, 14, 16, 17, 18] 19 rfl rfl rfl) (fun v2 w2 hp2 => ?_)
    obtain ⟨rfl, nw2, rfl⟩ := hp2
    refine RR.eq (st2 := [Value.int _, Value.int _]) rfl rfl rfl rfl ?_
    refine rr_eqT 797 dL_law_351 (by decide) rfl ?_
    refine K _ (INV_mk E x m len tx np kd lf qt wd nr rx ry sh h sz g sz2 g2 ns sp sc sv tx2 pg wn ro bg st was kp sn hlen hp hr hsh hs4 hs6 hnp ho hv hsz hg hsz2 hg2 hso etx epl ero ebg est ewa ekp esn ?_ ?_)
    · exact ⟨s, p, z, a, b, c, f, k, q, o, sg, nm, at_, t, pK, pL, pQ, pW, pX, pY, pS, zK, zL, zQ, zW, zX, zY, zS, np0, nr0, kd0, lf0, qt0, wd0, rx0, ry0, sh0, g0, g00, ar, ar2, u, u2, qp, qc, qv, fl, ln, mt, fr, Q, f0, lin, mts, hnm, h04, h06, perm_idx [0, 5, 6, 7, 1, 8, 9, 10, 11, 2, 3, 12, 13, 14, 15, 16, 17, 18, 19, 20, 4, 21, 22, 23, 24, 25, 26, 27, 28, 29, 30, 31, 32, 33, 34, 35, 36, 37, 38, 39, 40, 41, 42, 43, 44] 45 rfl rfl rfl⟩
    · exact ⟨mP, mW, mR, mB, mS, mA, mK, mE, mT, mD, nP, nW, nR, nB, mN, mO, mQ, mX, mat, mtd, rp, rr, rpg, rwn, rro, rbg, nw2, rw, rs, dp, ot, hnmM, perm_idx [0, 4, 5, 1, 6, 3, 7, 8, 9, 10, 11, 12, 13, 14, 15, 2, 16, 17, 18] 19 rfl rfl rfl⟩
set_option maxRecDepth 100000 in
set_option maxHeartbeats 1000000 in
theorem lw_undo {E : Ev} {x m i kc ks : Nat} {ws : va_W} {post : Option Value → va_W → Prop} (hL : eL E ≤ 256) (hi : i + 4 ≤ eL E) (hJ : INV E x m ws) (K : ∀ ws2 : va_W, INV E x m ws2 → RR E mL_law 20 kc ks 797 [(0, .ref (eB E)), (1, .ref x), (2, .ref m), (3, .int (zz (i : Int)))] [] ws2 post) : RR E mL_law 20 kc ks 356 [(0, .ref (eB E)), (1, .ref x), (2, .ref m), (3, .int (zz (i : Int)))] [] ws post := by
  obtain ⟨len, tx, np, kd, lf, qt, wd, nr, rx, ry, sh, h, sz, g, sz2, g2, ns, sp, sc, sv, tx2, pg, wn, ro, bg, st, was, kp, sn, cw, mw, hlen, hp, hr, hsh, hs4, hs6, hnp, ho, hv, hsz, hg, hsz2, hg2, hso, etx, epl, ero, ebg, est, ewa, ekp, esn, hC, hM, rfl⟩ := hJ
  obtain ⟨s, p, z, a, b, c, f, k, q, o, sg, nm, at_, t, pK, pL, pQ, pW, pX, pY, pS, zK, zL, zQ, zW, zX, zY, zS, np0, nr0, kd0, lf0, qt0, wd0, rx0, ry0, sh0, g0, g00, ar, ar2, u, u2, qp, qc, qv, fl, ln, mt, fr, Q, f0, lin, mts, hnm, h04, h06, hcw⟩ := hC
  obtain ⟨mP, mW, mR, mB, mS, mA, mK, mE, mT, mD, nP, nW, nR, nB, mN, mO, mQ, mX, mat, mtd, rp, rr, rpg, rwn, rro, rbg, nw, rw, rs, dp, ot, hnmM, hmw⟩ := hM
  by_cases hz : sz = 0
  · skip
    subst hz
    refine rr_aload_n 1 dL_law_356 rfl ?_
    refine rr_callF (wr := [(s, ob 3 [.ref sg, .ref nm, .int (zz ↑len), .int (zz ↑at_)]), (sg, aC E 200 tx), (nm, aI E 4 t), (p, ob 2 [.ref pK, .ref pL, .ref pQ, .ref pW, .ref pX, .ref pY, .ref pS, .int (zz ↑np), .int (zz ↑nr)]), (pK, aI E 7 kd), (pL, aI E 7 lf), (pQ, aI E 7 qt), (pW, aI E 10 wd), (pX, aI E 6 rx), (pY, aI E 6 ry), (pS, hO sh), (z, ob 2 [.ref zK, .ref zL, .ref zQ, .ref zW, .ref zX, .ref zY, .ref zS, .int (zz ↑np0), .int (zz ↑nr0)]), (zK, aI E 7 kd0), (zL, aI E 7 lf0), (zQ, aI E 7 qt0), (zW, aI E 10 wd0), (zX, aI E 6 rx0), (zY, aI E 6 ry0), (zS, hO sh0), (b, hO g0), (c, hO g00), (k, ob 4 [.ref ar2, .int (zz ↑sz2)]), (ar2, aH E 2 (fun i => some (u2 i))), ((u2 0), hO (g2 0)), ((u2 1), hO (g2 1)), (q, ob 5 [.ref qp, .ref qc, .ref qv, .int (zz ↑ns)]), (qp, aI E 6 sp), (qc, aI E 6 sc), (qv, aI E 6 sv), (o, ob 1 [.ref p, .ref fl, .ref ln, .ref mt, .int (zz ↑fr), .int (zz (↑(Q.length)))]), (fl, hO f0), (ln, aI E 8000 lin), (mt, aI E 250 mts)]) (call_V (q0 := 0) kL_56 (c_undo_no E 17 x s p z a b c f k q o ar u g h) rfl rfl rfl rfl (by omega) (by decide) (Nat.le_of_ble_eq_true rfl) (Nat.le_of_ble_eq_true rfl) dL_law_357) hcw (perm_idx [0, 23, 24, 25, 26, 27, 28, 29, 30, 31, 32, 20, 1, 2, 3, 4, 5, 6, 7, 8, 9, 10, 11, 12, 13, 14, 15, 16, 17, 18, 19, 21, 22, 33, 34, 35, 36, 37, 38, 39, 40, 41, 42, 43, 44] 45 rfl rfl rfl) (fun v w1 hp1 => ?_)
    obtain ⟨rfl, rfl⟩ := hp1
    refine rr_aload_n 2 dL_law_360 rfl ?_
    refine rr_callG (wr := [(mP, aI E 21 pg), (mW, aI E 10 wn), (mR, aI E 12 ro), (mB, aI E 7 bg), (mS, aI E 7 st), (mA, aI E 56 was), (mK, aI E 14 kp), (mE, aI E 18 sn), (mT, aI E 200 tx2), (mD, aI E 4 mtd), (nP, aI E 21 rpg), (nW, aI E 10 rwn), (nR, aI E 12 rro), (nB, aI E 7 rbg), (mN, aI E 7 nw), (mO, aI E 7 rw), (mQ, aI E 49 rs), (mX, aI E 7 ot)]) (call_V (q0 := 0) kL_59 (c_Mundo_no E 18 m mP mW mR mB mS mA mK mE mT mD nP nW nR nB mN mO mQ mX np nr 0 sz2 ns len mat rp rr dp rfl) rfl rfl rfl rfl (by omega) (by decide) (Nat.le_of_ble_eq_true rfl) (Nat.le_of_ble_eq_true rfl) dL_law_361) hmw (perm_idx [0, 1, 2, 3, 4, 5, 6, 7, 8, 9, 10, 11, 12, 13, 14, 15, 16, 17, 18] 19 rfl rfl rfl) (fun v2 w2 hp2 => ?_)
    obtain ⟨rfl, rfl⟩ := hp2
    refine RR.eq (st2 := [Value.int _, Value.int _]) rfl rfl rfl rfl ?_
    refine rr_eqT 797 dL_law_364 (by decide) rfl ?_
    refine K _ (INV_mk E x m len tx np kd lf qt wd nr rx ry sh h 0 g sz2 g2 ns sp sc sv tx2 pg wn ro bg st was kp sn hlen hp hr hsh hs4 hs6 hnp ho hv hsz hg hsz2 hg2 hso etx epl ero ebg est ewa ekp esn ?_ ?_)
    · exact ⟨s, p, z, a, b, c, f, k, q, o, sg, nm, at_, t, pK, pL, pQ, pW, pX, pY, pS, zK, zL, zQ, zW, zX, zY, zS, np0, nr0, kd0, lf0, qt0, wd0, rx0, ry0, sh0, g0, g00, ar, ar2, u, u2, qp, qc, qv, fl, ln, mt, fr, Q, f0, lin, mts, hnm, h04, h06, perm_idx [0, 12, 13, 14, 15, 16, 17, 18, 19, 20, 21, 22, 23, 24, 25, 26, 27, 28, 29, 30, 11, 31, 32, 1, 2, 3, 4, 5, 6, 7, 8, 9, 10, 33, 34, 35, 36, 37, 38, 39, 40, 41, 42, 43, 44] 45 rfl rfl rfl⟩
    · exact ⟨mP, mW, mR, mB, mS, mA, mK, mE, mT, mD, nP, nW, nR, nB, mN, mO, mQ, mX, mat, mtd, rp, rr, rpg, rwn, rro, rbg, nw, rw, rs, dp, ot, hnmM, perm_idx [0, 1, 2, 3, 4, 5, 6, 7, 8, 9, 10, 11, 12, 13, 14, 15, 16, 17, 18] 19 rfl rfl rfl⟩
  · skip
    obtain ⟨n, rfl⟩ : ∃ n : Nat, sz = n + 1 := ⟨sz - 1, by omega⟩
    refine rr_aload_n 1 dL_law_356 rfl ?_
    refine rr_callF (wr := [(s, ob 3 [.ref sg, .ref nm, .int (zz ↑len), .int (zz ↑at_)]), (sg, aC E 200 tx), (nm, aI E 4 t), (p, ob 2 [.ref pK, .ref pL, .ref pQ, .ref pW, .ref pX, .ref pY, .ref pS, .int (zz ↑np), .int (zz ↑nr)]), (pK, aI E 7 kd), (pL, aI E 7 lf), (pQ, aI E 7 qt), (pW, aI E 10 wd), (pX, aI E 6 rx), (pY, aI E 6 ry), (pS, hO sh), (z, ob 2 [.ref zK, .ref zL, .ref zQ, .ref zW, .ref zX, .ref zY, .ref zS, .int (zz ↑np0), .int (zz ↑nr0)]), (zK, aI E 7 kd0), (zL, aI E 7 lf0), (zQ, aI E 7 qt0), (zW, aI E 10 wd0), (zX, aI E 6 rx0), (zY, aI E 6 ry0), (zS, hO sh0), (b, hO g0), (c, hO g00), (k, ob 4 [.ref ar2, .int (zz ↑sz2)]), (ar2, aH E 2 (fun i => some (u2 i))), ((u2 0), hO (g2 0)), ((u2 1), hO (g2 1)), (q, ob 5 [.ref qp, .ref qc, .ref qv, .int (zz ↑ns)]), (qp, aI E 6 sp), (qc, aI E 6 sc), (qv, aI E 6 sv), (o, ob 1 [.ref p, .ref fl, .ref ln, .ref mt, .int (zz ↑fr), .int (zz (↑(Q.length)))]), (fl, hO f0), (ln, aI E 8000 lin), (mt, aI E 250 mts)]) (call_V (q0 := 0) kL_56 (c_undo_y E 17 x s p z a b c f k q o ar u g n h (by omega)) rfl rfl rfl rfl (by omega) (by decide) (Nat.le_of_ble_eq_true rfl) (Nat.le_of_ble_eq_true rfl) dL_law_357) hcw (perm_idx [0, 23, 24, 25, 26, 27, 28, 29, 30, 31, 32, 20, 1, 2, 3, 4, 5, 6, 7, 8, 9, 10, 11, 12, 13, 14, 15, 16, 17, 18, 19, 21, 22, 33, 34, 35, 36, 37, 38, 39, 40, 41, 42, 43, 44] 45 rfl rfl rfl) (fun v w1 hp1 => ?_)
    obtain ⟨rfl, rfl⟩ := hp1
    refine rr_aload_n 2 dL_law_360 rfl ?_
    refine rr_callG (wr := [(mP, aI E 21 pg), (mW, aI E 10 wn), (mR, aI E 12 ro), (mB, aI E 7 bg), (mK, aI E 14 kp), (mE, aI E 18 sn), (mT, aI E 200 tx2), (mD, aI E 4 mtd), (nP, aI E 21 rpg), (nW, aI E 10 rwn), (nR, aI E 12 rro), (nB, aI E 7 rbg), (mN, aI E 7 nw), (mO, aI E 7 rw), (mQ, aI E 49 rs), (mX, aI E 7 ot)]) (call_V (q0 := 0) kL_59 (c_Mundo_y E 18 m mP mW mR mB mS mA mK mE mT mD nP nW nR nB mN mO mQ mX np nr (n + 1) sz2 ns len mat rp rr dp was st n (by omega) rfl) rfl rfl rfl rfl (by omega) (by decide) (Nat.le_of_ble_eq_true rfl) (Nat.le_of_ble_eq_true rfl) dL_law_361) hmw (perm_idx [0, 5, 6, 1, 2, 3, 4, 7, 8, 9, 10, 11, 12, 13, 14, 15, 16, 17, 18] 19 rfl rfl rfl) (fun v2 w2 hp2 => ?_)
    obtain ⟨rfl, rfl⟩ := hp2
    refine RR.eq (st2 := [Value.int _, Value.int _]) rfl rfl rfl rfl ?_
    refine rr_eqT 797 dL_law_364 (by decide) rfl ?_
    refine K _ (INV_mk E x m len tx np kd lf qt wd nr rx ry sh (g n) n g sz2 g2 ns sp sc sv tx2 pg wn ro bg (cpI st 0 was (7 * n) 7) was kp sn hlen hp hr hsh hs4 hs6 hnp ((hg n (by omega)).1) ((hg n (by omega)).2) (by omega) (fun j hj => hg j (by omega)) hsz2 hg2 hso etx epl ero ebg (cp7o (fun i hi => ewa n (by omega) i hi)) (fun k hk => ewa k (by omega)) ekp esn ?_ ?_)
    · exact ⟨s, p, z, a, b, c, f, k, q, o, sg, nm, at_, t, pK, pL, pQ, pW, pX, pY, pS, zK, zL, zQ, zW, zX, zY, zS, np0, nr0, kd0, lf0, qt0, wd0, rx0, ry0, sh0, g0, g00, ar, ar2, u, u2, qp, qc, qv, fl, ln, mt, fr, Q, f0, lin, mts, hnm, h04, h06, perm_idx [0, 12, 13, 14, 15, 16, 17, 18, 19, 20, 21, 22, 23, 24, 25, 26, 27, 28, 29, 30, 11, 31, 32, 1, 2, 3, 4, 5, 6, 7, 8, 9, 10, 33, 34, 35, 36, 37, 38, 39, 40, 41, 42, 43, 44] 45 rfl rfl rfl⟩
    · exact ⟨mP, mW, mR, mB, mS, mA, mK, mE, mT, mD, nP, nW, nR, nB, mN, mO, mQ, mX, mat, mtd, rp, rr, rpg, rwn, rro, rbg, nw, rw, rs, dp, ot, hnmM, perm_idx [0, 3, 4, 5, 6, 1, 2, 7, 8, 9, 10, 11, 12, 13, 14, 15, 16, 17, 18] 19 rfl rfl rfl⟩
set_option maxRecDepth 100000 in
set_option maxHeartbeats 1000000 in
theorem lw_now {E : Ev} {x m i kc ks : Nat} {ws : va_W} {post : Option Value → va_W → Prop} (hL : eL E ≤ 256) (hi : i + 4 ≤ eL E) (hJ : INV E x m ws) (K : ∀ ws2 : va_W, INV E x m ws2 → RR E mL_law 20 kc ks 797 [(0, .ref (eB E)), (1, .ref x), (2, .ref m), (3, .int (zz (i : Int)))] [] ws2 post) : RR E mL_law 20 kc ks 369 [(0, .ref (eB E)), (1, .ref x), (2, .ref m), (3, .int (zz (i : Int)))] [] ws post := by
  obtain ⟨len, tx, np, kd, lf, qt, wd, nr, rx, ry, sh, h, sz, g, sz2, g2, ns, sp, sc, sv, tx2, pg, wn, ro, bg, st, was, kp, sn, cw, mw, hlen, hp, hr, hsh, hs4, hs6, hnp, ho, hv, hsz, hg, hsz2, hg2, hso, etx, epl, ero, ebg, est, ewa, ekp, esn, hC, hM, rfl⟩ := hJ
  obtain ⟨s, p, z, a, b, c, f, k, q, o, sg, nm, at_, t, pK, pL, pQ, pW, pX, pY, pS, zK, zL, zQ, zW, zX, zY, zS, np0, nr0, kd0, lf0, qt0, wd0, rx0, ry0, sh0, g0, g00, ar, ar2, u, u2, qp, qc, qv, fl, ln, mt, fr, Q, f0, lin, mts, hnm, h04, h06, hcw⟩ := hC
  obtain ⟨mP, mW, mR, mB, mS, mA, mK, mE, mT, mD, nP, nW, nR, nB, mN, mO, mQ, mX, mat, mtd, rp, rr, rpg, rwn, rro, rbg, nw, rw, rs, dp, ot, hnmM, hmw⟩ := hM
  obtain ⟨y1, g1, ey1⟩ := zz_of (eX E (i + 1))
  refine rr_aload_n 1 dL_law_369 rfl ?_
  refine rr_aload_n 0 dL_law_370 rfl ?_
  refine rr_iload_n 3 dL_law_371 rfl ?_
  refine rr_iconst dL_law_372 ?_
  refine rr_iadd dL_law_373 ?_
  refine rr_sldZ (y := y1) (i + 1) (by omega) (by omega) (by omega) ey1 dL_law_374 ?_
  refine rr_callF (wr := [(s, ob 3 [.ref sg, .ref nm, .int (zz ↑len), .int (zz ↑at_)]), (sg, aC E 200 tx), (nm, aI E 4 t), (pK, aI E 7 kd), (pL, aI E 7 lf), (pQ, aI E 7 qt), (pW, aI E 10 wd), (pS, hO sh), (z, ob 2 [.ref zK, .ref zL, .ref zQ, .ref zW, .ref zX, .ref zY, .ref zS, .int (zz ↑np0), .int (zz ↑nr0)]), (zK, aI E 7 kd0), (zL, aI E 7 lf0), (zQ, aI E 7 qt0), (zW, aI E 10 wd0), (zX, aI E 6 rx0), (zY, aI E 6 ry0), (zS, hO sh0), (b, hO g0), (c, hO g00), (f, ob 4 [.ref ar, .int (zz ↑sz)]), (ar, aH E 8 (fun i => some (u i))), ((u 0), hO (g 0)), ((u 1), hO (g 1)), ((u 2), hO (g 2)), ((u 3), hO (g 3)), ((u 4), hO (g 4)), ((u 5), hO (g 5)), ((u 6), hO (g 6)), ((u 7), hO (g 7)), (k, ob 4 [.ref ar2, .int (zz ↑sz2)]), (ar2, aH E 2 (fun i => some (u2 i))), ((u2 0), hO (g2 0)), ((u2 1), hO (g2 1)), (q, ob 5 [.ref qp, .ref qc, .ref qv, .int (zz ↑ns)]), (qp, aI E 6 sp), (qc, aI E 6 sc), (qv, aI E 6 sv), (o, ob 1 [.ref p, .ref fl, .ref ln, .ref mt, .int (zz ↑fr), .int (zz (↑(Q.length)))]), (fl, hO f0), (ln, aI E 8000 lin), (mt, aI E 250 mts)]) (call_V (q0 := 0) kL_60 (c_now E 17 x s p z a b c f k q o pK pL pQ pW pX pY pS np nr rx ry h hr ho y1 g1) rfl rfl rfl rfl (by omega) (by decide) (Nat.le_of_ble_eq_true rfl) (Nat.le_of_ble_eq_true rfl) dL_law_375) hcw (perm_idx [0, 4, 9, 10, 20, 1, 2, 3, 5, 6, 7, 8, 11, 12, 13, 14, 15, 16, 17, 18, 19, 21, 22, 23, 24, 25, 26, 27, 28, 29, 30, 31, 32, 33, 34, 35, 36, 37, 38, 39, 40, 41, 42, 43, 44] 45 rfl rfl rfl) (fun v w1 hp1 => ?_)
  obtain ⟨rfl, rfl⟩ := hp1
  refine rr_aload_n 2 dL_law_378 rfl ?_
  refine rr_aload_n 0 dL_law_379 rfl ?_
  refine rr_iload_n 3 dL_law_380 rfl ?_
  refine rr_iconst dL_law_381 ?_
  refine rr_iadd dL_law_382 ?_
  refine rr_sldZ (y := y1) (i + 1) (by omega) (by omega) (by omega) ey1 dL_law_383 ?_
  refine rr_callG (wr := [(mP, aI E 21 pg), (mW, aI E 10 wn), (mB, aI E 7 bg), (mA, aI E 56 was), (mK, aI E 14 kp), (mE, aI E 18 sn), (mT, aI E 200 tx2), (mD, aI E 4 mtd), (nP, aI E 21 rpg), (nW, aI E 10 rwn), (nR, aI E 12 rro), (nB, aI E 7 rbg), (mO, aI E 7 rw), (mQ, aI E 49 rs), (mX, aI E 7 ot)]) (call_V (q0 := 0) kL_63 (c_Mnow E 17 m mP mW mR mB mS mA mK mE mT mD nP nW nR nB mN mO mQ mX np nr sz sz2 ns len mat rp rr dp pg wn ro nw st kd lf qt wd rx ry h epl hp ero hr est ho hv y1 g1) rfl rfl rfl rfl (by omega) (by decide) (Nat.le_of_ble_eq_true rfl) (Nat.le_of_ble_eq_true rfl) dL_law_384) hmw (perm_idx [0, 3, 15, 5, 1, 2, 4, 6, 7, 8, 9, 10, 11, 12, 13, 14, 16, 17, 18] 19 rfl rfl rfl) (fun v2 w2 hp2 => ?_)
  obtain ⟨rfl, nw2, rfl⟩ := hp2
  refine RR.eq (st2 := [Value.int _, Value.int _]) rfl rfl rfl rfl ?_
  refine rr_eqT 797 dL_law_387 (by decide) rfl ?_
  refine K _ (INV_mk E x m len tx np kd lf qt wd nr rx ry sh h sz g sz2 g2 ns sp sc sv tx2 pg wn ro bg st was kp sn hlen hp hr hsh hs4 hs6 hnp ho hv hsz hg hsz2 hg2 hso etx epl ero ebg est ewa ekp esn ?_ ?_)
  · exact ⟨s, p, z, a, b, c, f, k, q, o, sg, nm, at_, t, pK, pL, pQ, pW, pX, pY, pS, zK, zL, zQ, zW, zX, zY, zS, np0, nr0, kd0, lf0, qt0, wd0, rx0, ry0, sh0, g0, g00, ar, ar2, u, u2, qp, qc, qv, fl, ln, mt, fr, Q, f0, lin, mts, hnm, h04, h06, perm_idx [0, 5, 6, 7, 1, 8, 9, 10, 11, 2, 3, 12, 13, 14, 15, 16, 17, 18, 19, 20, 4, 21, 22, 23, 24, 25, 26, 27, 28, 29, 30, 31, 32, 33, 34, 35, 36, 37, 38, 39, 40, 41, 42, 43, 44] 45 rfl rfl rfl⟩
  · exact ⟨mP, mW, mR, mB, mS, mA, mK, mE, mT, mD, nP, nW, nR, nB, mN, mO, mQ, mX, mat, mtd, rp, rr, rpg, rwn, rro, rbg, nw2, rw, rs, dp, ot, hnmM, perm_idx [0, 4, 5, 1, 6, 3, 7, 8, 9, 10, 11, 12, 13, 14, 15, 2, 16, 17, 18] 19 rfl rfl rfl⟩
set_option maxRecDepth 100000 in
set_option maxHeartbeats 1000000 in
theorem lw_safe {E : Ev} {x m i kc ks : Nat} {ws : va_W} {post : Option Value → va_W → Prop} (hL : eL E ≤ 256) (hi : i + 4 ≤ eL E) (hJ : INV E x m ws) (K : ∀ ws2 : va_W, INV E x m ws2 → RR E mL_law 20 kc ks 797 [(0, .ref (eB E)), (1, .ref x), (2, .ref m), (3, .int (zz (i : Int)))] [] ws2 post) : RR E mL_law 20 kc ks 392 [(0, .ref (eB E)), (1, .ref x), (2, .ref m), (3, .int (zz (i : Int)))] [] ws post := by
  obtain ⟨len, tx, np, kd, lf, qt, wd, nr, rx, ry, sh, h, sz, g, sz2, g2, ns, sp, sc, sv, tx2, pg, wn, ro, bg, st, was, kp, sn, cw, mw, hlen, hp, hr, hsh, hs4, hs6, hnp, ho, hv, hsz, hg, hsz2, hg2, hso, etx, epl, ero, ebg, est, ewa, ekp, esn, hC, hM, rfl⟩ := hJ
  obtain ⟨s, p, z, a, b, c, f, k, q, o, sg, nm, at_, t, pK, pL, pQ, pW, pX, pY, pS, zK, zL, zQ, zW, zX, zY, zS, np0, nr0, kd0, lf0, qt0, wd0, rx0, ry0, sh0, g0, g00, ar, ar2, u, u2, qp, qc, qv, fl, ln, mt, fr, Q, f0, lin, mts, hnm, h04, h06, hcw⟩ := hC
  obtain ⟨mP, mW, mR, mB, mS, mA, mK, mE, mT, mD, nP, nW, nR, nB, mN, mO, mQ, mX, mat, mtd, rp, rr, rpg, rwn, rro, rbg, nw, rw, rs, dp, ot, hnmM, hmw⟩ := hM
  refine rr_aload_n 1 dL_law_392 rfl ?_
  refine rr_callF (wr := [(s, ob 3 [.ref sg, .ref nm, .int (zz ↑len), .int (zz ↑at_)]), (sg, aC E 200 tx), (nm, aI E 4 t), (pS, hO sh), (z, ob 2 [.ref zK, .ref zL, .ref zQ, .ref zW, .ref zX, .ref zY, .ref zS, .int (zz ↑np0), .int (zz ↑nr0)]), (zK, aI E 7 kd0), (zL, aI E 7 lf0), (zQ, aI E 7 qt0), (zW, aI E 10 wd0), (zX, aI E 6 rx0), (zY, aI E 6 ry0), (zS, hO sh0), (c, hO g00), (f, ob 4 [.ref ar, .int (zz ↑sz)]), (ar, aH E 8 (fun i => some (u i))), ((u 0), hO (g 0)), ((u 1), hO (g 1)), ((u 2), hO (g 2)), ((u 3), hO (g 3)), ((u 4), hO (g 4)), ((u 5), hO (g 5)), ((u 6), hO (g 6)), ((u 7), hO (g 7)), (k, ob 4 [.ref ar2, .int (zz ↑sz2)]), (ar2, aH E 2 (fun i => some (u2 i))), ((u2 0), hO (g2 0)), ((u2 1), hO (g2 1)), (q, ob 5 [.ref qp, .ref qc, .ref qv, .int (zz ↑ns)]), (qp, aI E 6 sp), (qc, aI E 6 sc), (qv, aI E 6 sv), (o, ob 1 [.ref p, .ref fl, .ref ln, .ref mt, .int (zz ↑fr), .int (zz (↑(Q.length)))]), (fl, hO f0), (ln, aI E 8000 lin), (mt, aI E 250 mts)]) (call_V (q0 := 0) kL_64 (c_safe E 15 x s p z a b c f k q o pK pL pQ pW pX pY pS np nr rx ry kd lf qt wd h g0 hp ho hr) rfl rfl rfl rfl (by omega) (by decide) (Nat.le_of_ble_eq_true rfl) (Nat.le_of_ble_eq_true rfl) dL_law_393) hcw (perm_idx [0, 4, 5, 6, 7, 8, 9, 10, 20, 21, 1, 2, 3, 11, 12, 13, 14, 15, 16, 17, 18, 19, 22, 23, 24, 25, 26, 27, 28, 29, 30, 31, 32, 33, 34, 35, 36, 37, 38, 39, 40, 41, 42, 43, 44] 45 rfl rfl rfl) (fun v w1 hp1 => ?_)
  obtain ⟨rfl, g1, rfl⟩ := hp1
  refine rr_aload_n 2 dL_law_396 rfl ?_
  refine rr_callG (wr := [(mB, aI E 7 bg), (mA, aI E 56 was), (mK, aI E 14 kp), (mE, aI E 18 sn), (mT, aI E 200 tx2), (mD, aI E 4 mtd), (nP, aI E 21 rpg), (nW, aI E 10 rwn), (nR, aI E 12 rro), (nB, aI E 7 rbg), (mO, aI E 7 rw), (mQ, aI E 49 rs), (mX, aI E 7 ot)]) (call_V (q0 := 0) kL_67 (c_Msafe E 15 m mP mW mR mB mS mA mK mE mT mD nP nW nR nB mN mO mQ mX np nr sz sz2 ns len mat rp rr dp pg wn ro nw st kd lf qt wd rx ry h epl hp ero hr est ho hv) rfl rfl rfl rfl (by omega) (by decide) (Nat.le_of_ble_eq_true rfl) (Nat.le_of_ble_eq_true rfl) dL_law_397) hmw (perm_idx [0, 1, 2, 3, 15, 5, 4, 6, 7, 8, 9, 10, 11, 12, 13, 14, 16, 17, 18] 19 rfl rfl rfl) (fun v2 w2 hp2 => ?_)
  obtain ⟨rfl, nw2, rfl⟩ := hp2
  refine RR.eq (st2 := [Value.int _, Value.int _]) rfl rfl rfl rfl ?_
  refine rr_eqT 797 dL_law_400 (by decide) rfl ?_
  refine K _ (INV_mk E x m len tx np kd lf qt wd nr rx ry sh h sz g sz2 g2 ns sp sc sv tx2 pg wn ro bg st was kp sn hlen hp hr hsh hs4 hs6 hnp ho hv hsz hg hsz2 hg2 hso etx epl ero ebg est ewa ekp esn ?_ ?_)
  · exact ⟨s, p, z, a, b, c, f, k, q, o, sg, nm, at_, t, pK, pL, pQ, pW, pX, pY, pS, zK, zL, zQ, zW, zX, zY, zS, np0, nr0, kd0, lf0, qt0, wd0, rx0, ry0, sh0, g1, g00, ar, ar2, u, u2, qp, qc, qv, fl, ln, mt, fr, Q, f0, lin, mts, hnm, h04, h06, perm_idx [0, 10, 11, 12, 1, 2, 3, 4, 5, 6, 7, 13, 14, 15, 16, 17, 18, 19, 20, 21, 8, 9, 22, 23, 24, 25, 26, 27, 28, 29, 30, 31, 32, 33, 34, 35, 36, 37, 38, 39, 40, 41, 42, 43, 44] 45 rfl rfl rfl⟩
  · exact ⟨mP, mW, mR, mB, mS, mA, mK, mE, mT, mD, nP, nW, nR, nB, mN, mO, mQ, mX, mat, mtd, rp, rr, rpg, rwn, rro, rbg, nw2, rw, rs, dp, ot, hnmM, perm_idx [0, 1, 2, 3, 6, 5, 7, 8, 9, 10, 11, 12, 13, 14, 15, 4, 16, 17, 18] 19 rfl rfl rfl⟩
set_option maxRecDepth 100000 in
set_option maxHeartbeats 1000000 in
theorem lw_way {E : Ev} {x m i kc ks : Nat} {ws : va_W} {post : Option Value → va_W → Prop} (hL : eL E ≤ 256) (hi : i + 4 ≤ eL E) (hJ : INV E x m ws) (K : ∀ ws2 : va_W, INV E x m ws2 → RR E mL_law 20 kc ks 797 [(0, .ref (eB E)), (1, .ref x), (2, .ref m), (3, .int (zz (i : Int)))] [] ws2 post) : RR E mL_law 20 kc ks 405 [(0, .ref (eB E)), (1, .ref x), (2, .ref m), (3, .int (zz (i : Int)))] [] ws post := by
  obtain ⟨len, tx, np, kd, lf, qt, wd, nr, rx, ry, sh, h, sz, g, sz2, g2, ns, sp, sc, sv, tx2, pg, wn, ro, bg, st, was, kp, sn, cw, mw, hlen, hp, hr, hsh, hs4, hs6, hnp, ho, hv, hsz, hg, hsz2, hg2, hso, etx, epl, ero, ebg, est, ewa, ekp, esn, hC, hM, rfl⟩ := hJ
  obtain ⟨s, p, z, a, b, c, f, k, q, o, sg, nm, at_, t, pK, pL, pQ, pW, pX, pY, pS, zK, zL, zQ, zW, zX, zY, zS, np0, nr0, kd0, lf0, qt0, wd0, rx0, ry0, sh0, g0, g00, ar, ar2, u, u2, qp, qc, qv, fl, ln, mt, fr, Q, f0, lin, mts, hnm, h04, h06, hcw⟩ := hC
  obtain ⟨mP, mW, mR, mB, mS, mA, mK, mE, mT, mD, nP, nW, nR, nB, mN, mO, mQ, mX, mat, mtd, rp, rr, rpg, rwn, rro, rbg, nw, rw, rs, dp, ot, hnmM, hmw⟩ := hM
  obtain ⟨y1, g1, ey1⟩ := zz_of (eX E (i + 1))
  obtain ⟨y2, g2_, ey2⟩ := zz_of (eX E (i + 2))
  by_cases hc : (0 ≤ y1 ∧ y1 < (nr : Int)) ∧ -1 ≤ y2 ∧ y2 ≤ 5
  · skip
    have hc1 := hc.1
    have hc2 := hc.2
    obtain ⟨ip, rfl⟩ : ∃ n : Nat, y1 = (n : Int) := ⟨y1.toNat, by omega⟩
    have hip : ip < nr := by omega
    refine rr_aload_n 1 dL_law_405 rfl ?_
    refine rr_aload_n 0 dL_law_406 rfl ?_
    refine rr_iload_n 3 dL_law_407 rfl ?_
    refine rr_iconst dL_law_408 ?_
    refine rr_iadd dL_law_409 ?_
    refine rr_sldZ (y := ↑ip) (i + 1) (by omega) (by omega) (by omega) ey1 dL_law_410 ?_
    refine rr_aload_n 0 dL_law_411 rfl ?_
    refine rr_iload_n 3 dL_law_412 rfl ?_
    refine rr_iconst dL_law_413 ?_
    refine rr_iadd dL_law_414 ?_
    refine rr_sldZ (y := y2) (i + 2) (by omega) (by omega) (by omega) ey2 dL_law_415 ?_
    refine rr_callF (wr := [(s, ob 3 [.ref sg, .ref nm, .int (zz ↑len), .int (zz ↑at_)]), (sg, aC E 200 tx), (nm, aI E 4 t), (pS, hO sh), (z, ob 2 [.ref zK, .ref zL, .ref zQ, .ref zW, .ref zX, .ref zY, .ref zS, .int (zz ↑np0), .int (zz ↑nr0)]), (zK, aI E 7 kd0), (zL, aI E 7 lf0), (zQ, aI E 7 qt0), (zW, aI E 10 wd0), (zX, aI E 6 rx0), (zY, aI E 6 ry0), (zS, hO sh0), (b, hO g0), (c, hO g00), (f, ob 4 [.ref ar, .int (zz ↑sz)]), (ar, aH E 8 (fun i => some (u i))), ((u 0), hO (g 0)), ((u 1), hO (g 1)), ((u 2), hO (g 2)), ((u 3), hO (g 3)), ((u 4), hO (g 4)), ((u 5), hO (g 5)), ((u 6), hO (g 6)), ((u 7), hO (g 7)), (k, ob 4 [.ref ar2, .int (zz ↑sz2)]), (ar2, aH E 2 (fun i => some (u2 i))), ((u2 0), hO (g2 0)), ((u2 1), hO (g2 1)), (q, ob 5 [.ref qp, .ref qc, .ref qv, .int (zz ↑ns)]), (qp, aI E 6 sp), (qc, aI E 6 sc), (qv, aI E 6 sv)]) (call_V (q0 := 0) kL_68 (c_way_y E 13 x s p z a b c f k q o pK pL pQ pW pX pY pS np nr fl ln mt fr Q rx ry kd lf qt wd h f0 lin mts hp ho hr ip hip y2 hc2) rfl rfl rfl rfl (by omega) (by decide) (Nat.le_of_ble_eq_true rfl) (Nat.le_of_ble_eq_true rfl) dL_law_416) hcw (perm_idx [0, 41, 42, 43, 44, 4, 5, 6, 7, 8, 9, 10, 20, 1, 2, 3, 11, 12, 13, 14, 15, 16, 17, 18, 19, 21, 22, 23, 24, 25, 26, 27, 28, 29, 30, 31, 32, 33, 34, 35, 36, 37, 38, 39, 40] 45 rfl rfl rfl) (fun v w1 hp1 => ?_)
    obtain ⟨rfl, fr2, Q2, f2, lin2, mts2, rfl⟩ := hp1
    refine rr_aload_n 2 dL_law_419 rfl ?_
    refine rr_aload_n 0 dL_law_420 rfl ?_
    refine rr_iload_n 3 dL_law_421 rfl ?_
    refine rr_iconst dL_law_422 ?_
    refine rr_iadd dL_law_423 ?_
    refine rr_sldZ (y := ↑ip) (i + 1) (by omega) (by omega) (by omega) ey1 dL_law_424 ?_
    refine rr_aload_n 0 dL_law_425 rfl ?_
    refine rr_iload_n 3 dL_law_426 rfl ?_
    refine rr_iconst dL_law_427 ?_
    refine rr_iadd dL_law_428 ?_
    refine rr_sldZ (y := y2) (i + 2) (by omega) (by omega) (by omega) ey2 dL_law_429 ?_
    refine rr_callG (wr := [(mB, aI E 7 bg), (mA, aI E 56 was), (mK, aI E 14 kp), (mE, aI E 18 sn), (mT, aI E 200 tx2), (mD, aI E 4 mtd), (nP, aI E 21 rpg), (nW, aI E 10 rwn), (nR, aI E 12 rro), (nB, aI E 7 rbg), (mX, aI E 7 ot)]) (call_V (q0 := 0) kL_71 (c_Mway_y E 13 m mP mW mR mB mS mA mK mE mT mD nP nW nR nB mN mO mQ mX np nr sz sz2 ns len mat rp rr dp pg wn ro nw st kd lf qt wd rx ry h epl hp ero hr est ho hv rw rs ip hip y2 hc2) rfl rfl rfl rfl (by omega) (by decide) (Nat.le_of_ble_eq_true rfl) (Nat.le_of_ble_eq_true rfl) dL_law_430) hmw (perm_idx [0, 1, 2, 3, 15, 5, 16, 17, 4, 6, 7, 8, 9, 10, 11, 12, 13, 14, 18] 19 rfl rfl rfl) (fun v2 w2 hp2 => ?_)
    obtain ⟨rfl, nw2, rw2, rs2, dp2, rfl⟩ := hp2
    refine RR.eq (st2 := [Value.int _, Value.int _]) rfl rfl rfl rfl ?_
    refine rr_eqT 797 dL_law_433 (by decide) (congrArg zz (way_eq hp ho _ _ _)) ?_
    refine K _ (INV_mk E x m len tx np kd lf qt wd nr rx ry sh h sz g sz2 g2 ns sp sc sv tx2 pg wn ro bg st was kp sn hlen hp hr hsh hs4 hs6 hnp ho hv hsz hg hsz2 hg2 hso etx epl ero ebg est ewa ekp esn ?_ ?_)
    · exact ⟨s, p, z, a, b, c, f, k, q, o, sg, nm, at_, t, pK, pL, pQ, pW, pX, pY, pS, zK, zL, zQ, zW, zX, zY, zS, np0, nr0, kd0, lf0, qt0, wd0, rx0, ry0, sh0, g0, g00, ar, ar2, u, u2, qp, qc, qv, fl, ln, mt, fr2, Q2, f2, lin2, mts2, hnm, h04, h06, perm_idx [0, 13, 14, 15, 5, 6, 7, 8, 9, 10, 11, 16, 17, 18, 19, 20, 21, 22, 23, 24, 12, 25, 26, 27, 28, 29, 30, 31, 32, 33, 34, 35, 36, 37, 38, 39, 40, 41, 42, 43, 44, 1, 2, 3, 4] 45 rfl rfl rfl⟩
    · exact ⟨mP, mW, mR, mB, mS, mA, mK, mE, mT, mD, nP, nW, nR, nB, mN, mO, mQ, mX, mat, mtd, rp, rr, rpg, rwn, rro, rbg, nw2, rw2, rs2, dp2, ot, hnmM, perm_idx [0, 1, 2, 3, 8, 5, 9, 10, 11, 12, 13, 14, 15, 16, 17, 4, 6, 7, 18] 19 rfl rfl rfl⟩
  · skip
    refine rr_aload_n 1 dL_law_405 rfl ?_
    refine rr_aload_n 0 dL_law_406 rfl ?_
    refine rr_iload_n 3 dL_law_407 rfl ?_
    refine rr_iconst dL_law_408 ?_
    refine rr_iadd dL_law_409 ?_
    refine rr_sldZ (y := y1) (i + 1) (by omega) (by omega) (by omega) ey1 dL_law_410 ?_
    refine rr_aload_n 0 dL_law_411 rfl ?_
    refine rr_iload_n 3 dL_law_412 rfl ?_
    refine rr_iconst dL_law_413 ?_
    refine rr_iadd dL_law_414 ?_
    refine rr_sldZ (y := y2) (i + 2) (by omega) (by omega) (by omega) ey2 dL_law_415 ?_
    refine rr_callF (wr := [(s, ob 3 [.ref sg, .ref nm, .int (zz ↑len), .int (zz ↑at_)]), (sg, aC E 200 tx), (nm, aI E 4 t), (pK, aI E 7 kd), (pL, aI E 7 lf), (pQ, aI E 7 qt), (pW, aI E 10 wd), (pX, aI E 6 rx), (pY, aI E 6 ry), (pS, hO sh), (z, ob 2 [.ref zK, .ref zL, .ref zQ, .ref zW, .ref zX, .ref zY, .ref zS, .int (zz ↑np0), .int (zz ↑nr0)]), (zK, aI E 7 kd0), (zL, aI E 7 lf0), (zQ, aI E 7 qt0), (zW, aI E 10 wd0), (zX, aI E 6 rx0), (zY, aI E 6 ry0), (zS, hO sh0), (a, hO h), (b, hO g0), (c, hO g00), (f, ob 4 [.ref ar, .int (zz ↑sz)]), (ar, aH E 8 (fun i => some (u i))), ((u 0), hO (g 0)), ((u 1), hO (g 1)), ((u 2), hO (g 2)), ((u 3), hO (g 3)), ((u 4), hO (g 4)), ((u 5), hO (g 5)), ((u 6), hO (g 6)), ((u 7), hO (g 7)), (k, ob 4 [.ref ar2, .int (zz ↑sz2)]), (ar2, aH E 2 (fun i => some (u2 i))), ((u2 0), hO (g2 0)), ((u2 1), hO (g2 1)), (q, ob 5 [.ref qp, .ref qc, .ref qv, .int (zz ↑ns)]), (qp, aI E 6 sp), (qc, aI E 6 sc), (qv, aI E 6 sv), (o, ob 1 [.ref p, .ref fl, .ref ln, .ref mt, .int (zz ↑fr), .int (zz (↑(Q.length)))]), (fl, hO f0), (ln, aI E 8000 lin), (mt, aI E 250 mts)]) (call_V (q0 := 0) kL_68 (c_way_bad E 13 x s p z a b c f k q o pK pL pQ pW pX pY pS np nr y1 y2 g1 g2_ hr.1 hc) rfl rfl rfl rfl (by omega) (by decide) (Nat.le_of_ble_eq_true rfl) (Nat.le_of_ble_eq_true rfl) dL_law_416) hcw (perm_idx [0, 4, 1, 2, 3, 5, 6, 7, 8, 9, 10, 11, 12, 13, 14, 15, 16, 17, 18, 19, 20, 21, 22, 23, 24, 25, 26, 27, 28, 29, 30, 31, 32, 33, 34, 35, 36, 37, 38, 39, 40, 41, 42, 43, 44] 45 rfl rfl rfl) (fun v w1 hp1 => ?_)
    obtain ⟨rfl, rfl⟩ := hp1
    refine rr_aload_n 2 dL_law_419 rfl ?_
    refine rr_aload_n 0 dL_law_420 rfl ?_
    refine rr_iload_n 3 dL_law_421 rfl ?_
    refine rr_iconst dL_law_422 ?_
    refine rr_iadd dL_law_423 ?_
    refine rr_sldZ (y := y1) (i + 1) (by omega) (by omega) (by omega) ey1 dL_law_424 ?_
    refine rr_aload_n 0 dL_law_425 rfl ?_
    refine rr_iload_n 3 dL_law_426 rfl ?_
    refine rr_iconst dL_law_427 ?_
    refine rr_iadd dL_law_428 ?_
    refine rr_sldZ (y := y2) (i + 2) (by omega) (by omega) (by omega) ey2 dL_law_429 ?_
    refine rr_callG (wr := [(mP, aI E 21 pg), (mW, aI E 10 wn), (mR, aI E 12 ro), (mB, aI E 7 bg), (mS, aI E 7 st), (mA, aI E 56 was), (mK, aI E 14 kp), (mE, aI E 18 sn), (mT, aI E 200 tx2), (mD, aI E 4 mtd), (nP, aI E 21 rpg), (nW, aI E 10 rwn), (nR, aI E 12 rro), (nB, aI E 7 rbg), (mN, aI E 7 nw), (mO, aI E 7 rw), (mQ, aI E 49 rs), (mX, aI E 7 ot)]) (call_V (q0 := 0) kL_71 (c_Mway_bad E 13 m mP mW mR mB mS mA mK mE mT mD nP nW nR nB mN mO mQ mX np nr sz sz2 ns len mat rp rr dp y1 y2 g1 g2_ hr.1 hc) rfl rfl rfl rfl (by omega) (by decide) (Nat.le_of_ble_eq_true rfl) (Nat.le_of_ble_eq_true rfl) dL_law_430) hmw (perm_idx [0, 1, 2, 3, 4, 5, 6, 7, 8, 9, 10, 11, 12, 13, 14, 15, 16, 17, 18] 19 rfl rfl rfl) (fun v2 w2 hp2 => ?_)
    obtain ⟨rfl, rfl⟩ := hp2
    refine RR.eq (st2 := [Value.int _, Value.int _]) rfl rfl rfl rfl ?_
    refine rr_eqT 797 dL_law_433 (by decide) rfl ?_
    refine K _ (INV_mk E x m len tx np kd lf qt wd nr rx ry sh h sz g sz2 g2 ns sp sc sv tx2 pg wn ro bg st was kp sn hlen hp hr hsh hs4 hs6 hnp ho hv hsz hg hsz2 hg2 hso etx epl ero ebg est ewa ekp esn ?_ ?_)
    · exact ⟨s, p, z, a, b, c, f, k, q, o, sg, nm, at_, t, pK, pL, pQ, pW, pX, pY, pS, zK, zL, zQ, zW, zX, zY, zS, np0, nr0, kd0, lf0, qt0, wd0, rx0, ry0, sh0, g0, g00, ar, ar2, u, u2, qp, qc, qv, fl, ln, mt, fr, Q, f0, lin, mts, hnm, h04, h06, perm_idx [0, 2, 3, 4, 1, 5, 6, 7, 8, 9, 10, 11, 12, 13, 14, 15, 16, 17, 18, 19, 20, 21, 22, 23, 24, 25, 26, 27, 28, 29, 30, 31, 32, 33, 34, 35, 36, 37, 38, 39, 40, 41, 42, 43, 44] 45 rfl rfl rfl⟩
    · exact ⟨mP, mW, mR, mB, mS, mA, mK, mE, mT, mD, nP, nW, nR, nB, mN, mO, mQ, mX, mat, mtd, rp, rr, rpg, rwn, rro, rbg, nw, rw, rs, dp, ot, hnmM, perm_idx [0, 1, 2, 3, 4, 5, 6, 7, 8, 9, 10, 11, 12, 13, 14, 15, 16, 17, 18] 19 rfl rfl rfl⟩
set_option maxRecDepth 100000 in
set_option maxHeartbeats 1000000 in
theorem lw_near {E : Ev} {x m i kc ks : Nat} {ws : va_W} {post : Option Value → va_W → Prop} (hL : eL E ≤ 256) (hi : i + 4 ≤ eL E) (hJ : INV E x m ws) (K : ∀ ws2 : va_W, INV E x m ws2 → RR E mL_law 20 kc ks 797 [(0, .ref (eB E)), (1, .ref x), (2, .ref m), (3, .int (zz (i : Int)))] [] ws2 post) : RR E mL_law 20 kc ks 438 [(0, .ref (eB E)), (1, .ref x), (2, .ref m), (3, .int (zz (i : Int)))] [] ws post := by
  obtain ⟨len, tx, np, kd, lf, qt, wd, nr, rx, ry, sh, h, sz, g, sz2, g2, ns, sp, sc, sv, tx2, pg, wn, ro, bg, st, was, kp, sn, cw, mw, hlen, hp, hr, hsh, hs4, hs6, hnp, ho, hv, hsz, hg, hsz2, hg2, hso, etx, epl, ero, ebg, est, ewa, ekp, esn, hC, hM, rfl⟩ := hJ
  obtain ⟨s, p, z, a, b, c, f, k, q, o, sg, nm, at_, t, pK, pL, pQ, pW, pX, pY, pS, zK, zL, zQ, zW, zX, zY, zS, np0, nr0, kd0, lf0, qt0, wd0, rx0, ry0, sh0, g0, g00, ar, ar2, u, u2, qp, qc, qv, fl, ln, mt, fr, Q, f0, lin, mts, hnm, h04, h06, hcw⟩ := hC
  obtain ⟨mP, mW, mR, mB, mS, mA, mK, mE, mT, mD, nP, nW, nR, nB, mN, mO, mQ, mX, mat, mtd, rp, rr, rpg, rwn, rro, rbg, nw, rw, rs, dp, ot, hnmM, hmw⟩ := hM
  obtain ⟨y1, g1, ey1⟩ := zz_of (eX E (i + 1))
  by_cases hc : 0 ≤ y1 ∧ y1 ≤ 5
  · skip
    obtain ⟨ip, rfl⟩ : ∃ n : Nat, y1 = (n : Int) := ⟨y1.toNat, by omega⟩
    have hip : ip ≤ 5 := by omega
    refine rr_aload_n 1 dL_law_438 rfl ?_
    refine rr_aload_n 0 dL_law_439 rfl ?_
    refine rr_iload_n 3 dL_law_440 rfl ?_
    refine rr_iconst dL_law_441 ?_
    refine rr_iadd dL_law_442 ?_
    refine rr_sldZ (y := ↑ip) (i + 1) (by omega) (by omega) (by omega) ey1 dL_law_443 ?_
    refine rr_callF (wr := [(s, ob 3 [.ref sg, .ref nm, .int (zz ↑len), .int (zz ↑at_)]), (sg, aC E 200 tx), (nm, aI E 4 t), (pS, hO sh), (z, ob 2 [.ref zK, .ref zL, .ref zQ, .ref zW, .ref zX, .ref zY, .ref zS, .int (zz ↑np0), .int (zz ↑nr0)]), (zK, aI E 7 kd0), (zL, aI E 7 lf0), (zQ, aI E 7 qt0), (zW, aI E 10 wd0), (zX, aI E 6 rx0), (zY, aI E 6 ry0), (zS, hO sh0), (b, hO g0), (c, hO g00), (f, ob 4 [.ref ar, .int (zz ↑sz)]), (ar, aH E 8 (fun i => some (u i))), ((u 0), hO (g 0)), ((u 1), hO (g 1)), ((u 2), hO (g 2)), ((u 3), hO (g 3)), ((u 4), hO (g 4)), ((u 5), hO (g 5)), ((u 6), hO (g 6)), ((u 7), hO (g 7)), (k, ob 4 [.ref ar2, .int (zz ↑sz2)]), (ar2, aH E 2 (fun i => some (u2 i))), ((u2 0), hO (g2 0)), ((u2 1), hO (g2 1)), (q, ob 5 [.ref qp, .ref qc, .ref qv, .int (zz ↑ns)]), (qp, aI E 6 sp), (qc, aI E 6 sc), (qv, aI E 6 sv)]) (call_V (q0 := 0) kL_72 (c_near_y E 13 x s p z a b c f k q o pK pL pQ pW pX pY pS np nr fl ln mt fr Q rx ry kd lf qt wd h f0 lin mts hp ho hr ip hip) rfl rfl rfl rfl (by omega) (by decide) (Nat.le_of_ble_eq_true rfl) (Nat.le_of_ble_eq_true rfl) dL_law_444) hcw (perm_idx [0, 41, 42, 43, 44, 4, 5, 6, 7, 8, 9, 10, 20, 1, 2, 3, 11, 12, 13, 14, 15, 16, 17, 18, 19, 21, 22, 23, 24, 25, 26, 27, 28, 29, 30, 31, 32, 33, 34, 35, 36, 37, 38, 39, 40] 45 rfl rfl rfl) (fun v w1 hp1 => ?_)
    obtain ⟨rfl, fr2, Q2, f2, lin2, mts2, rfl⟩ := hp1
    refine rr_aload_n 2 dL_law_447 rfl ?_
    refine rr_aload_n 0 dL_law_448 rfl ?_
    refine rr_iload_n 3 dL_law_449 rfl ?_
    refine rr_iconst dL_law_450 ?_
    refine rr_iadd dL_law_451 ?_
    refine rr_sldZ (y := ↑ip) (i + 1) (by omega) (by omega) (by omega) ey1 dL_law_452 ?_
    refine rr_callG (wr := [(mB, aI E 7 bg), (mA, aI E 56 was), (mK, aI E 14 kp), (mE, aI E 18 sn), (mT, aI E 200 tx2), (mD, aI E 4 mtd), (nP, aI E 21 rpg), (nW, aI E 10 rwn), (nR, aI E 12 rro), (nB, aI E 7 rbg), (mX, aI E 7 ot)]) (call_V (q0 := 0) kL_75 (c_Mnear_y E 13 m mP mW mR mB mS mA mK mE mT mD nP nW nR nB mN mO mQ mX np nr sz sz2 ns len mat rp rr dp pg wn ro nw st kd lf qt wd rx ry h epl hp ero hr est ho hv rw rs ip hip) rfl rfl rfl rfl (by omega) (by decide) (Nat.le_of_ble_eq_true rfl) (Nat.le_of_ble_eq_true rfl) dL_law_453) hmw (perm_idx [0, 1, 2, 3, 15, 5, 16, 17, 4, 6, 7, 8, 9, 10, 11, 12, 13, 14, 18] 19 rfl rfl rfl) (fun v2 w2 hp2 => ?_)
    obtain ⟨rfl, nw2, rw2, rs2, dp2, rfl⟩ := hp2
    refine RR.eq (st2 := [Value.int _, Value.int _]) rfl rfl rfl rfl ?_
    refine rr_eqT 797 dL_law_456 (by decide) (congrArg (fun n : Nat => zz (n : Int)) (near_eq hp ho _)) ?_
    refine K _ (INV_mk E x m len tx np kd lf qt wd nr rx ry sh h sz g sz2 g2 ns sp sc sv tx2 pg wn ro bg st was kp sn hlen hp hr hsh hs4 hs6 hnp ho hv hsz hg hsz2 hg2 hso etx epl ero ebg est ewa ekp esn ?_ ?_)
    · exact ⟨s, p, z, a, b, c, f, k, q, o, sg, nm, at_, t, pK, pL, pQ, pW, pX, pY, pS, zK, zL, zQ, zW, zX, zY, zS, np0, nr0, kd0, lf0, qt0, wd0, rx0, ry0, sh0, g0, g00, ar, ar2, u, u2, qp, qc, qv, fl, ln, mt, fr2, Q2, f2, lin2, mts2, hnm, h04, h06, perm_idx [0, 13, 14, 15, 5, 6, 7, 8, 9, 10, 11, 16, 17, 18, 19, 20, 21, 22, 23, 24, 12, 25, 26, 27, 28, 29, 30, 31, 32, 33, 34, 35, 36, 37, 38, 39, 40, 41, 42, 43, 44, 1, 2, 3, 4] 45 rfl rfl rfl⟩
    · exact ⟨mP, mW, mR, mB, mS, mA, mK, mE, mT, mD, nP, nW, nR, nB, mN, mO, mQ, mX, mat, mtd, rp, rr, rpg, rwn, rro, rbg, nw2, rw2, rs2, dp2, ot, hnmM, perm_idx [0, 1, 2, 3, 8, 5, 9, 10, 11, 12, 13, 14, 15, 16, 17, 4, 6, 7, 18] 19 rfl rfl rfl⟩
  · skip
    refine rr_aload_n 1 dL_law_438 rfl ?_
    refine rr_aload_n 0 dL_law_439 rfl ?_
    refine rr_iload_n 3 dL_law_440 rfl ?_
    refine rr_iconst dL_law_441 ?_
    refine rr_iadd dL_law_442 ?_
    refine rr_sldZ (y := y1) (i + 1) (by omega) (by omega) (by omega) ey1 dL_law_443 ?_
    refine rr_callF (wr := [(s, ob 3 [.ref sg, .ref nm, .int (zz ↑len), .int (zz ↑at_)]), (sg, aC E 200 tx), (nm, aI E 4 t), (p, ob 2 [.ref pK, .ref pL, .ref pQ, .ref pW, .ref pX, .ref pY, .ref pS, .int (zz ↑np), .int (zz ↑nr)]), (pK, aI E 7 kd), (pL, aI E 7 lf), (pQ, aI E 7 qt), (pW, aI E 10 wd), (pX, aI E 6 rx), (pY, aI E 6 ry), (pS, hO sh), (z, ob 2 [.ref zK, .ref zL, .ref zQ, .ref zW, .ref zX, .ref zY, .ref zS, .int (zz ↑np0), .int (zz ↑nr0)]), (zK, aI E 7 kd0), (zL, aI E 7 lf0), (zQ, aI E 7 qt0), (zW, aI E 10 wd0), (zX, aI E 6 rx0), (zY, aI E 6 ry0), (zS, hO sh0), (a, hO h), (b, hO g0), (c, hO g00), (f, ob 4 [.ref ar, .int (zz ↑sz)]), (ar, aH E 8 (fun i => some (u i))), ((u 0), hO (g 0)), ((u 1), hO (g 1)), ((u 2), hO (g 2)), ((u 3), hO (g 3)), ((u 4), hO (g 4)), ((u 5), hO (g 5)), ((u 6), hO (g 6)), ((u 7), hO (g 7)), (k, ob 4 [.ref ar2, .int (zz ↑sz2)]), (ar2, aH E 2 (fun i => some (u2 i))), ((u2 0), hO (g2 0)), ((u2 1), hO (g2 1)), (q, ob 5 [.ref qp, .ref qc, .ref qv, .int (zz ↑ns)]), (qp, aI E 6 sp), (qc, aI E 6 sc), (qv, aI E 6 sv), (o, ob 1 [.ref p, .ref fl, .ref ln, .ref mt, .int (zz ↑fr), .int (zz (↑(Q.length)))]), (fl, hO f0), (ln, aI E 8000 lin), (mt, aI E 250 mts)]) (call_V (q0 := 0) kL_72 (c_near_bad E 13 x s p z a b c f k q o y1 g1 hc) rfl rfl rfl rfl (by omega) (by decide) (Nat.le_of_ble_eq_true rfl) (Nat.le_of_ble_eq_true rfl) dL_law_444) hcw (perm_idx [0, 1, 2, 3, 4, 5, 6, 7, 8, 9, 10, 11, 12, 13, 14, 15, 16, 17, 18, 19, 20, 21, 22, 23, 24, 25, 26, 27, 28, 29, 30, 31, 32, 33, 34, 35, 36, 37, 38, 39, 40, 41, 42, 43, 44] 45 rfl rfl rfl) (fun v w1 hp1 => ?_)
    obtain ⟨rfl, rfl⟩ := hp1
    refine rr_aload_n 2 dL_law_447 rfl ?_
    refine rr_aload_n 0 dL_law_448 rfl ?_
    refine rr_iload_n 3 dL_law_449 rfl ?_
    refine rr_iconst dL_law_450 ?_
    refine rr_iadd dL_law_451 ?_
    refine rr_sldZ (y := y1) (i + 1) (by omega) (by omega) (by omega) ey1 dL_law_452 ?_
    refine rr_callG (wr := [(mP, aI E 21 pg), (mW, aI E 10 wn), (mR, aI E 12 ro), (mB, aI E 7 bg), (mS, aI E 7 st), (mA, aI E 56 was), (mK, aI E 14 kp), (mE, aI E 18 sn), (mT, aI E 200 tx2), (mD, aI E 4 mtd), (nP, aI E 21 rpg), (nW, aI E 10 rwn), (nR, aI E 12 rro), (nB, aI E 7 rbg), (mN, aI E 7 nw), (mO, aI E 7 rw), (mQ, aI E 49 rs), (mX, aI E 7 ot)]) (call_V (q0 := 0) kL_75 (c_Mnear_bad E 13 m mP mW mR mB mS mA mK mE mT mD nP nW nR nB mN mO mQ mX np nr sz sz2 ns len mat rp rr dp y1 g1 hc) rfl rfl rfl rfl (by omega) (by decide) (Nat.le_of_ble_eq_true rfl) (Nat.le_of_ble_eq_true rfl) dL_law_453) hmw (perm_idx [0, 1, 2, 3, 4, 5, 6, 7, 8, 9, 10, 11, 12, 13, 14, 15, 16, 17, 18] 19 rfl rfl rfl) (fun v2 w2 hp2 => ?_)
    obtain ⟨rfl, rfl⟩ := hp2
    refine RR.eq (st2 := [Value.int _, Value.int _]) rfl rfl rfl rfl ?_
    refine rr_eqT 797 dL_law_456 (by decide) rfl ?_
    refine K _ (INV_mk E x m len tx np kd lf qt wd nr rx ry sh h sz g sz2 g2 ns sp sc sv tx2 pg wn ro bg st was kp sn hlen hp hr hsh hs4 hs6 hnp ho hv hsz hg hsz2 hg2 hso etx epl ero ebg est ewa ekp esn ?_ ?_)
    · exact ⟨s, p, z, a, b, c, f, k, q, o, sg, nm, at_, t, pK, pL, pQ, pW, pX, pY, pS, zK, zL, zQ, zW, zX, zY, zS, np0, nr0, kd0, lf0, qt0, wd0, rx0, ry0, sh0, g0, g00, ar, ar2, u, u2, qp, qc, qv, fl, ln, mt, fr, Q, f0, lin, mts, hnm, h04, h06, perm_idx [0, 1, 2, 3, 4, 5, 6, 7, 8, 9, 10, 11, 12, 13, 14, 15, 16, 17, 18, 19, 20, 21, 22, 23, 24, 25, 26, 27, 28, 29, 30, 31, 32, 33, 34, 35, 36, 37, 38, 39, 40, 41, 42, 43, 44] 45 rfl rfl rfl⟩
    · exact ⟨mP, mW, mR, mB, mS, mA, mK, mE, mT, mD, nP, nW, nR, nB, mN, mO, mQ, mX, mat, mtd, rp, rr, rpg, rwn, rro, rbg, nw, rw, rs, dp, ot, hnmM, perm_idx [0, 1, 2, 3, 4, 5, 6, 7, 8, 9, 10, 11, 12, 13, 14, 15, 16, 17, 18] 19 rfl rfl rfl⟩
set_option maxRecDepth 100000 in
set_option maxHeartbeats 1000000 in
theorem lw_undoes {E : Ev} {x m i kc ks : Nat} {ws : va_W} {post : Option Value → va_W → Prop} (hL : eL E ≤ 256) (hi : i + 4 ≤ eL E) (hJ : INV E x m ws) (K : ∀ ws2 : va_W, INV E x m ws2 → RR E mL_law 20 kc ks 797 [(0, .ref (eB E)), (1, .ref x), (2, .ref m), (3, .int (zz (i : Int)))] [] ws2 post) : RR E mL_law 20 kc ks 461 [(0, .ref (eB E)), (1, .ref x), (2, .ref m), (3, .int (zz (i : Int)))] [] ws post := by
  obtain ⟨len, tx, np, kd, lf, qt, wd, nr, rx, ry, sh, h, sz, g, sz2, g2, ns, sp, sc, sv, tx2, pg, wn, ro, bg, st, was, kp, sn, cw, mw, hlen, hp, hr, hsh, hs4, hs6, hnp, ho, hv, hsz, hg, hsz2, hg2, hso, etx, epl, ero, ebg, est, ewa, ekp, esn, hC, hM, rfl⟩ := hJ
  obtain ⟨s, p, z, a, b, c, f, k, q, o, sg, nm, at_, t, pK, pL, pQ, pW, pX, pY, pS, zK, zL, zQ, zW, zX, zY, zS, np0, nr0, kd0, lf0, qt0, wd0, rx0, ry0, sh0, g0, g00, ar, ar2, u, u2, qp, qc, qv, fl, ln, mt, fr, Q, f0, lin, mts, hnm, h04, h06, hcw⟩ := hC
  obtain ⟨mP, mW, mR, mB, mS, mA, mK, mE, mT, mD, nP, nW, nR, nB, mN, mO, mQ, mX, mat, mtd, rp, rr, rpg, rwn, rro, rbg, nw, rw, rs, dp, ot, hnmM, hmw⟩ := hM
  obtain ⟨y1, g1, ey1⟩ := zz_of (eX E (i + 1))
  by_cases hy : 0 ≤ y1 ∧ y1 < (np : Int)
  · skip
    obtain ⟨ip, rfl⟩ : ∃ n : Nat, y1 = (n : Int) := ⟨y1.toNat, by omega⟩
    have hip : ip < np := by omega
    refine rr_aload_n 1 dL_law_461 rfl ?_
    refine rr_aload_n 0 dL_law_462 rfl ?_
    refine rr_iload_n 3 dL_law_463 rfl ?_
    refine rr_iconst dL_law_464 ?_
    refine rr_iadd dL_law_465 ?_
    refine rr_sldZ (y := ↑ip) (i + 1) (by omega) (by omega) (by omega) ey1 dL_law_466 ?_
    refine rr_callF (wr := [(s, ob 3 [.ref sg, .ref nm, .int (zz ↑len), .int (zz ↑at_)]), (sg, aC E 200 tx), (nm, aI E 4 t), (pX, aI E 6 rx), (pY, aI E 6 ry), (pS, hO sh), (z, ob 2 [.ref zK, .ref zL, .ref zQ, .ref zW, .ref zX, .ref zY, .ref zS, .int (zz ↑np0), .int (zz ↑nr0)]), (zK, aI E 7 kd0), (zL, aI E 7 lf0), (zQ, aI E 7 qt0), (zW, aI E 10 wd0), (zX, aI E 6 rx0), (zY, aI E 6 ry0), (zS, hO sh0), (c, hO g00), (f, ob 4 [.ref ar, .int (zz ↑sz)]), (ar, aH E 8 (fun i => some (u i))), ((u 0), hO (g 0)), ((u 1), hO (g 1)), ((u 2), hO (g 2)), ((u 3), hO (g 3)), ((u 4), hO (g 4)), ((u 5), hO (g 5)), ((u 6), hO (g 6)), ((u 7), hO (g 7)), (k, ob 4 [.ref ar2, .int (zz ↑sz2)]), (ar2, aH E 2 (fun i => some (u2 i))), ((u2 0), hO (g2 0)), ((u2 1), hO (g2 1)), (q, ob 5 [.ref qp, .ref qc, .ref qv, .int (zz ↑ns)]), (qp, aI E 6 sp), (qc, aI E 6 sc), (qv, aI E 6 sv), (o, ob 1 [.ref p, .ref fl, .ref ln, .ref mt, .int (zz ↑fr), .int (zz (↑(Q.length)))]), (fl, hO f0), (ln, aI E 8000 lin), (mt, aI E 250 mts)]) (call_V (q0 := 0) kL_76 (c_undoes_y E 14 x s p z a b c f k q o pK pL pQ pW pX pY pS np nr kd lf qt wd h g0 hp ho ip hip) rfl rfl rfl rfl (by omega) (by decide) (Nat.le_of_ble_eq_true rfl) (Nat.le_of_ble_eq_true rfl) dL_law_467) hcw (perm_idx [0, 4, 5, 6, 7, 8, 20, 21, 1, 2, 3, 9, 10, 11, 12, 13, 14, 15, 16, 17, 18, 19, 22, 23, 24, 25, 26, 27, 28, 29, 30, 31, 32, 33, 34, 35, 36, 37, 38, 39, 40, 41, 42, 43, 44] 45 rfl rfl rfl) (fun v w1 hp1 => ?_)
    obtain ⟨rfl, g1, rfl⟩ := hp1
    refine rr_aload_n 2 dL_law_470 rfl ?_
    refine rr_aload_n 0 dL_law_471 rfl ?_
    refine rr_iload_n 3 dL_law_472 rfl ?_
    refine rr_iconst dL_law_473 ?_
    refine rr_iadd dL_law_474 ?_
    refine rr_sldZ (y := ↑ip) (i + 1) (by omega) (by omega) (by omega) ey1 dL_law_475 ?_
    refine rr_callG (wr := [(mR, aI E 12 ro), (mB, aI E 7 bg), (mA, aI E 56 was), (mK, aI E 14 kp), (mE, aI E 18 sn), (mT, aI E 200 tx2), (mD, aI E 4 mtd), (nP, aI E 21 rpg), (nW, aI E 10 rwn), (nR, aI E 12 rro), (nB, aI E 7 rbg), (mO, aI E 7 rw), (mQ, aI E 49 rs), (mX, aI E 7 ot)]) (call_V (q0 := 0) kL_79 (c_Mundoes_y E 15 m mP mW mR mB mS mA mK mE mT mD nP nW nR nB mN mO mQ mX np nr sz sz2 ns len mat rp rr dp pg wn ro nw st kd lf qt wd rx ry h epl hp ero hr est ho hv ip hip) rfl rfl rfl rfl (by omega) (by decide) (Nat.le_of_ble_eq_true rfl) (Nat.le_of_ble_eq_true rfl) dL_law_476) hmw (perm_idx [0, 1, 2, 15, 5, 3, 4, 6, 7, 8, 9, 10, 11, 12, 13, 14, 16, 17, 18] 19 rfl rfl rfl) (fun v2 w2 hp2 => ?_)
    obtain ⟨rfl, nw2, rfl⟩ := hp2
    refine RR.eq (st2 := [Value.int _, Value.int _]) rfl rfl rfl rfl ?_
    refine rr_eqT 797 dL_law_479 (by decide) rfl ?_
    refine K _ (INV_mk E x m len tx np kd lf qt wd nr rx ry sh h sz g sz2 g2 ns sp sc sv tx2 pg wn ro bg st was kp sn hlen hp hr hsh hs4 hs6 hnp ho hv hsz hg hsz2 hg2 hso etx epl ero ebg est ewa ekp esn ?_ ?_)
    · exact ⟨s, p, z, a, b, c, f, k, q, o, sg, nm, at_, t, pK, pL, pQ, pW, pX, pY, pS, zK, zL, zQ, zW, zX, zY, zS, np0, nr0, kd0, lf0, qt0, wd0, rx0, ry0, sh0, g1, g00, ar, ar2, u, u2, qp, qc, qv, fl, ln, mt, fr, Q, f0, lin, mts, hnm, h04, h06, perm_idx [0, 8, 9, 10, 1, 2, 3, 4, 5, 11, 12, 13, 14, 15, 16, 17, 18, 19, 20, 21, 6, 7, 22, 23, 24, 25, 26, 27, 28, 29, 30, 31, 32, 33, 34, 35, 36, 37, 38, 39, 40, 41, 42, 43, 44] 45 rfl rfl rfl⟩
    · exact ⟨mP, mW, mR, mB, mS, mA, mK, mE, mT, mD, nP, nW, nR, nB, mN, mO, mQ, mX, mat, mtd, rp, rr, rpg, rwn, rro, rbg, nw2, rw, rs, dp, ot, hnmM, perm_idx [0, 1, 2, 5, 6, 4, 7, 8, 9, 10, 11, 12, 13, 14, 15, 3, 16, 17, 18] 19 rfl rfl rfl⟩
  · skip
    refine rr_aload_n 1 dL_law_461 rfl ?_
    refine rr_aload_n 0 dL_law_462 rfl ?_
    refine rr_iload_n 3 dL_law_463 rfl ?_
    refine rr_iconst dL_law_464 ?_
    refine rr_iadd dL_law_465 ?_
    refine rr_sldZ (y := y1) (i + 1) (by omega) (by omega) (by omega) ey1 dL_law_466 ?_
    refine rr_callF (wr := [(s, ob 3 [.ref sg, .ref nm, .int (zz ↑len), .int (zz ↑at_)]), (sg, aC E 200 tx), (nm, aI E 4 t), (pK, aI E 7 kd), (pL, aI E 7 lf), (pQ, aI E 7 qt), (pW, aI E 10 wd), (pX, aI E 6 rx), (pY, aI E 6 ry), (pS, hO sh), (z, ob 2 [.ref zK, .ref zL, .ref zQ, .ref zW, .ref zX, .ref zY, .ref zS, .int (zz ↑np0), .int (zz ↑nr0)]), (zK, aI E 7 kd0), (zL, aI E 7 lf0), (zQ, aI E 7 qt0), (zW, aI E 10 wd0), (zX, aI E 6 rx0), (zY, aI E 6 ry0), (zS, hO sh0), (a, hO h), (b, hO g0), (c, hO g00), (f, ob 4 [.ref ar, .int (zz ↑sz)]), (ar, aH E 8 (fun i => some (u i))), ((u 0), hO (g 0)), ((u 1), hO (g 1)), ((u 2), hO (g 2)), ((u 3), hO (g 3)), ((u 4), hO (g 4)), ((u 5), hO (g 5)), ((u 6), hO (g 6)), ((u 7), hO (g 7)), (k, ob 4 [.ref ar2, .int (zz ↑sz2)]), (ar2, aH E 2 (fun i => some (u2 i))), ((u2 0), hO (g2 0)), ((u2 1), hO (g2 1)), (q, ob 5 [.ref qp, .ref qc, .ref qv, .int (zz ↑ns)]), (qp, aI E 6 sp), (qc, aI E 6 sc), (qv, aI E 6 sv), (o, ob 1 [.ref p, .ref fl, .ref ln, .ref mt, .int (zz ↑fr), .int (zz (↑(Q.length)))]), (fl, hO f0), (ln, aI E 8000 lin), (mt, aI E 250 mts)]) (call_V (q0 := 0) kL_76 (c_undoes_bad E 14 x s p z a b c f k q o pK pL pQ pW pX pY pS np nr y1 g1 hp.1 hy) rfl rfl rfl rfl (by omega) (by decide) (Nat.le_of_ble_eq_true rfl) (Nat.le_of_ble_eq_true rfl) dL_law_467) hcw (perm_idx [0, 4, 1, 2, 3, 5, 6, 7, 8, 9, 10, 11, 12, 13, 14, 15, 16, 17, 18, 19, 20, 21, 22, 23, 24, 25, 26, 27, 28, 29, 30, 31, 32, 33, 34, 35, 36, 37, 38, 39, 40, 41, 42, 43, 44] 45 rfl rfl rfl) (fun v w1 hp1 => ?_)
    obtain ⟨rfl, rfl⟩ := hp1
    refine rr_aload_n 2 dL_law_470 rfl ?_
    refine rr_aload_n 0 dL_law_471 rfl ?_
    refine rr_iload_n 3 dL_law_472 rfl ?_
    refine rr_iconst dL_law_473 ?_
    refine rr_iadd dL_law_474 ?_
    refine rr_sldZ (y := y1) (i + 1) (by omega) (by omega) (by omega) ey1 dL_law_475 ?_
    refine rr_callG (wr := [(mP, aI E 21 pg), (mW, aI E 10 wn), (mR, aI E 12 ro), (mB, aI E 7 bg), (mS, aI E 7 st), (mA, aI E 56 was), (mK, aI E 14 kp), (mE, aI E 18 sn), (mT, aI E 200 tx2), (mD, aI E 4 mtd), (nP, aI E 21 rpg), (nW, aI E 10 rwn), (nR, aI E 12 rro), (nB, aI E 7 rbg), (mN, aI E 7 nw), (mO, aI E 7 rw), (mQ, aI E 49 rs), (mX, aI E 7 ot)]) (call_V (q0 := 0) kL_79 (c_Mundoes_bad E 15 m mP mW mR mB mS mA mK mE mT mD nP nW nR nB mN mO mQ mX np nr sz sz2 ns len mat rp rr dp y1 g1 hp.1 hy) rfl rfl rfl rfl (by omega) (by decide) (Nat.le_of_ble_eq_true rfl) (Nat.le_of_ble_eq_true rfl) dL_law_476) hmw (perm_idx [0, 1, 2, 3, 4, 5, 6, 7, 8, 9, 10, 11, 12, 13, 14, 15, 16, 17, 18] 19 rfl rfl rfl) (fun v2 w2 hp2 => ?_)
    obtain ⟨rfl, rfl⟩ := hp2
    refine RR.eq (st2 := [Value.int _, Value.int _]) rfl rfl rfl rfl ?_
    refine rr_eqT 797 dL_law_479 (by decide) rfl ?_
    refine K _ (INV_mk E x m len tx np kd lf qt wd nr rx ry sh h sz g sz2 g2 ns sp sc sv tx2 pg wn ro bg st was kp sn hlen hp hr hsh hs4 hs6 hnp ho hv hsz hg hsz2 hg2 hso etx epl ero ebg est ewa ekp esn ?_ ?_)
    · exact ⟨s, p, z, a, b, c, f, k, q, o, sg, nm, at_, t, pK, pL, pQ, pW, pX, pY, pS, zK, zL, zQ, zW, zX, zY, zS, np0, nr0, kd0, lf0, qt0, wd0, rx0, ry0, sh0, g0, g00, ar, ar2, u, u2, qp, qc, qv, fl, ln, mt, fr, Q, f0, lin, mts, hnm, h04, h06, perm_idx [0, 2, 3, 4, 1, 5, 6, 7, 8, 9, 10, 11, 12, 13, 14, 15, 16, 17, 18, 19, 20, 21, 22, 23, 24, 25, 26, 27, 28, 29, 30, 31, 32, 33, 34, 35, 36, 37, 38, 39, 40, 41, 42, 43, 44] 45 rfl rfl rfl⟩
    · exact ⟨mP, mW, mR, mB, mS, mA, mK, mE, mT, mD, nP, nW, nR, nB, mN, mO, mQ, mX, mat, mtd, rp, rr, rpg, rwn, rro, rbg, nw, rw, rs, dp, ot, hnmM, perm_idx [0, 1, 2, 3, 4, 5, 6, 7, 8, 9, 10, 11, 12, 13, 14, 15, 16, 17, 18] 19 rfl rfl rfl⟩
set_option maxRecDepth 100000 in
set_option maxHeartbeats 1000000 in
theorem lw_either {E : Ev} {x m i kc ks : Nat} {ws : va_W} {post : Option Value → va_W → Prop} (hL : eL E ≤ 256) (hi : i + 4 ≤ eL E) (hJ : INV E x m ws) (K : ∀ ws2 : va_W, INV E x m ws2 → RR E mL_law 20 kc ks 797 [(0, .ref (eB E)), (1, .ref x), (2, .ref m), (3, .int (zz (i : Int)))] [] ws2 post) : RR E mL_law 20 kc ks 484 [(0, .ref (eB E)), (1, .ref x), (2, .ref m), (3, .int (zz (i : Int)))] [] ws post := by
  obtain ⟨len, tx, np, kd, lf, qt, wd, nr, rx, ry, sh, h, sz, g, sz2, g2, ns, sp, sc, sv, tx2, pg, wn, ro, bg, st, was, kp, sn, cw, mw, hlen, hp, hr, hsh, hs4, hs6, hnp, ho, hv, hsz, hg, hsz2, hg2, hso, etx, epl, ero, ebg, est, ewa, ekp, esn, hC, hM, rfl⟩ := hJ
  obtain ⟨s, p, z, a, b, c, f, k, q, o, sg, nm, at_, t, pK, pL, pQ, pW, pX, pY, pS, zK, zL, zQ, zW, zX, zY, zS, np0, nr0, kd0, lf0, qt0, wd0, rx0, ry0, sh0, g0, g00, ar, ar2, u, u2, qp, qc, qv, fl, ln, mt, fr, Q, f0, lin, mts, hnm, h04, h06, hcw⟩ := hC
  obtain ⟨mP, mW, mR, mB, mS, mA, mK, mE, mT, mD, nP, nW, nR, nB, mN, mO, mQ, mX, mat, mtd, rp, rr, rpg, rwn, rro, rbg, nw, rw, rs, dp, ot, hnmM, hmw⟩ := hM
  obtain ⟨y1, g1, ey1⟩ := zz_of (eX E (i + 1))
  obtain ⟨y2, g2_, ey2⟩ := zz_of (eX E (i + 2))
  by_cases hy : (0 ≤ y1 ∧ y1 < (np : Int)) ∧ 0 ≤ y2 ∧ y2 < (np : Int)
  · skip
    have hc1 := hy.1
    have hc2 := hy.2
    obtain ⟨ip, rfl⟩ : ∃ n : Nat, y1 = (n : Int) := ⟨y1.toNat, by omega⟩
    obtain ⟨jp, rfl⟩ : ∃ n : Nat, y2 = (n : Int) := ⟨y2.toNat, by omega⟩
    have hip : ip < np := by omega
    have hjp : jp < np := by omega
    refine rr_aload_n 1 dL_law_484 rfl ?_
    refine rr_aload_n 0 dL_law_485 rfl ?_
    refine rr_iload_n 3 dL_law_486 rfl ?_
    refine rr_iconst dL_law_487 ?_
    refine rr_iadd dL_law_488 ?_
    refine rr_sldZ (y := ↑ip) (i + 1) (by omega) (by omega) (by omega) ey1 dL_law_489 ?_
    refine rr_aload_n 0 dL_law_490 rfl ?_
    refine rr_iload_n 3 dL_law_491 rfl ?_
    refine rr_iconst dL_law_492 ?_
    refine rr_iadd dL_law_493 ?_
    refine rr_sldZ (y := ↑jp) (i + 2) (by omega) (by omega) (by omega) ey2 dL_law_494 ?_
    refine rr_callF (wr := [(s, ob 3 [.ref sg, .ref nm, .int (zz ↑len), .int (zz ↑at_)]), (sg, aC E 200 tx), (nm, aI E 4 t), (pX, aI E 6 rx), (pY, aI E 6 ry), (pS, hO sh), (z, ob 2 [.ref zK, .ref zL, .ref zQ, .ref zW, .ref zX, .ref zY, .ref zS, .int (zz ↑np0), .int (zz ↑nr0)]), (zK, aI E 7 kd0), (zL, aI E 7 lf0), (zQ, aI E 7 qt0), (zW, aI E 10 wd0), (zX, aI E 6 rx0), (zY, aI E 6 ry0), (zS, hO sh0), (f, ob 4 [.ref ar, .int (zz ↑sz)]), (ar, aH E 8 (fun i => some (u i))), ((u 0), hO (g 0)), ((u 1), hO (g 1)), ((u 2), hO (g 2)), ((u 3), hO (g 3)), ((u 4), hO (g 4)), ((u 5), hO (g 5)), ((u 6), hO (g 6)), ((u 7), hO (g 7)), (k, ob 4 [.ref ar2, .int (zz ↑sz2)]), (ar2, aH E 2 (fun i => some (u2 i))), ((u2 0), hO (g2 0)), ((u2 1), hO (g2 1)), (q, ob 5 [.ref qp, .ref qc, .ref qv, .int (zz ↑ns)]), (qp, aI E 6 sp), (qc, aI E 6 sc), (qv, aI E 6 sv), (o, ob 1 [.ref p, .ref fl, .ref ln, .ref mt, .int (zz ↑fr), .int (zz (↑(Q.length)))]), (fl, hO f0), (ln, aI E 8000 lin), (mt, aI E 250 mts)]) (call_V (q0 := 0) kL_80 (c_either_y E 14 x s p z a b c f k q o pK pL pQ pW pX pY pS np nr kd lf qt wd h g0 g00 hp ho ip jp hip hjp) rfl rfl rfl rfl (by omega) (by decide) (Nat.le_of_ble_eq_true rfl) (Nat.le_of_ble_eq_true rfl) dL_law_495) hcw (perm_idx [0, 4, 5, 6, 7, 8, 20, 21, 22, 1, 2, 3, 9, 10, 11, 12, 13, 14, 15, 16, 17, 18, 19, 23, 24, 25, 26, 27, 28, 29, 30, 31, 32, 33, 34, 35, 36, 37, 38, 39, 40, 41, 42, 43, 44] 45 rfl rfl rfl) (fun v w1 hp1 => ?_)
    obtain ⟨rfl, g1, g3_, rfl⟩ := hp1
    refine rr_aload_n 2 dL_law_498 rfl ?_
    refine rr_aload_n 0 dL_law_499 rfl ?_
    refine rr_iload_n 3 dL_law_500 rfl ?_
    refine rr_iconst dL_law_501 ?_
    refine rr_iadd dL_law_502 ?_
    refine rr_sldZ (y := ↑ip) (i + 1) (by omega) (by omega) (by omega) ey1 dL_law_503 ?_
    refine rr_aload_n 0 dL_law_504 rfl ?_
    refine rr_iload_n 3 dL_law_505 rfl ?_
    refine rr_iconst dL_law_506 ?_
    refine rr_iadd dL_law_507 ?_
    refine rr_sldZ (y := ↑jp) (i + 2) (by omega) (by omega) (by omega) ey2 dL_law_508 ?_
    refine rr_callG (wr := [(mR, aI E 12 ro), (mB, aI E 7 bg), (mA, aI E 56 was), (mK, aI E 14 kp), (mE, aI E 18 sn), (mT, aI E 200 tx2), (mD, aI E 4 mtd), (nP, aI E 21 rpg), (nW, aI E 10 rwn), (nR, aI E 12 rro), (nB, aI E 7 rbg), (mO, aI E 7 rw), (mQ, aI E 49 rs)]) (call_V (q0 := 0) kL_83 (c_Meither_y E 14 m mP mW mR mB mS mA mK mE mT mD nP nW nR nB mN mO mQ mX np nr sz sz2 ns len mat rp rr dp pg wn ro nw st kd lf qt wd rx ry h epl hp ero hr est ho hv ot ip jp hip hjp) rfl rfl rfl rfl (by omega) (by decide) (Nat.le_of_ble_eq_true rfl) (Nat.le_of_ble_eq_true rfl) dL_law_509) hmw (perm_idx [0, 1, 2, 15, 5, 18, 3, 4, 6, 7, 8, 9, 10, 11, 12, 13, 14, 16, 17] 19 rfl rfl rfl) (fun v2 w2 hp2 => ?_)
    obtain ⟨rfl, nw2, ot2, rfl⟩ := hp2
    refine RR.eq (st2 := [Value.int _, Value.int _]) rfl rfl rfl rfl ?_
    refine rr_eqT 797 dL_law_512 (by decide) rfl ?_
    refine K _ (INV_mk E x m len tx np kd lf qt wd nr rx ry sh h sz g sz2 g2 ns sp sc sv tx2 pg wn ro bg st was kp sn hlen hp hr hsh hs4 hs6 hnp ho hv hsz hg hsz2 hg2 hso etx epl ero ebg est ewa ekp esn ?_ ?_)
    · exact ⟨s, p, z, a, b, c, f, k, q, o, sg, nm, at_, t, pK, pL, pQ, pW, pX, pY, pS, zK, zL, zQ, zW, zX, zY, zS, np0, nr0, kd0, lf0, qt0, wd0, rx0, ry0, sh0, g1, g3_, ar, ar2, u, u2, qp, qc, qv, fl, ln, mt, fr, Q, f0, lin, mts, hnm, h04, h06, perm_idx [0, 9, 10, 11, 1, 2, 3, 4, 5, 12, 13, 14, 15, 16, 17, 18, 19, 20, 21, 22, 6, 7, 8, 23, 24, 25, 26, 27, 28, 29, 30, 31, 32, 33, 34, 35, 36, 37, 38, 39, 40, 41, 42, 43, 44] 45 rfl rfl rfl⟩
    · exact ⟨mP, mW, mR, mB, mS, mA, mK, mE, mT, mD, nP, nW, nR, nB, mN, mO, mQ, mX, mat, mtd, rp, rr, rpg, rwn, rro, rbg, nw2, rw, rs, dp, ot2, hnmM, perm_idx [0, 1, 2, 6, 7, 4, 8, 9, 10, 11, 12, 13, 14, 15, 16, 3, 17, 18, 5] 19 rfl rfl rfl⟩
  · skip
    refine rr_aload_n 1 dL_law_484 rfl ?_
    refine rr_aload_n 0 dL_law_485 rfl ?_
    refine rr_iload_n 3 dL_law_486 rfl ?_
    refine rr_iconst dL_law_487 ?_
    refine rr_iadd dL_law_488 ?_
    refine rr_sldZ (y := y1) (i + 1) (by omega) (by omega) (by omega) ey1 dL_law_489 ?_
    refine rr_aload_n 0 dL_law_490 rfl ?_
    refine rr_iload_n 3 dL_law_491 rfl ?_
    refine rr_iconst dL_law_492 ?_
    refine rr_iadd dL_law_493 ?_
    refine rr_sldZ (y := y2) (i + 2) (by omega) (by omega) (by omega) ey2 dL_law_494 ?_
    refine rr_callF (wr := [(s, ob 3 [.ref sg, .ref nm, .int (zz ↑len), .int (zz ↑at_)]), (sg, aC E 200 tx), (nm, aI E 4 t), (pK, aI E 7 kd), (pL, aI E 7 lf), (pQ, aI E 7 qt), (pW, aI E 10 wd), (pX, aI E 6 rx), (pY, aI E 6 ry), (pS, hO sh), (z, ob 2 [.ref zK, .ref zL, .ref zQ, .ref zW, .ref zX, .ref zY, .ref zS, .int (zz ↑np0), .int (zz ↑nr0)]), (zK, aI E 7 kd0), (zL, aI E 7 lf0), (zQ, aI E 7 qt0), (zW, aI E 10 wd0), (zX, aI E 6 rx0), (zY, aI E 6 ry0), (zS, hO sh0), (a, hO h), (b, hO g0), (c, hO g00), (f, ob 4 [.ref ar, .int (zz ↑sz)]), (ar, aH E 8 (fun i => some (u i))), ((u 0), hO (g 0)), ((u 1), hO (g 1)), ((u 2), hO (g 2)), ((u 3), hO (g 3)), ((u 4), hO (g 4)), ((u 5), hO (g 5)), ((u 6), hO (g 6)), ((u 7), hO (g 7)), (k, ob 4 [.ref ar2, .int (zz ↑sz2)]), (ar2, aH E 2 (fun i => some (u2 i))), ((u2 0), hO (g2 0)), ((u2 1), hO (g2 1)), (q, ob 5 [.ref qp, .ref qc, .ref qv, .int (zz ↑ns)]), (qp, aI E 6 sp), (qc, aI E 6 sc), (qv, aI E 6 sv), (o, ob 1 [.ref p, .ref fl, .ref ln, .ref mt, .int (zz ↑fr), .int (zz (↑(Q.length)))]), (fl, hO f0), (ln, aI E 8000 lin), (mt, aI E 250 mts)]) (call_V (q0 := 0) kL_80 (c_either_bad E 14 x s p z a b c f k q o pK pL pQ pW pX pY pS np nr y1 y2 g1 g2_ hp.1 hy) rfl rfl rfl rfl (by omega) (by decide) (Nat.le_of_ble_eq_true rfl) (Nat.le_of_ble_eq_true rfl) dL_law_495) hcw (perm_idx [0, 4, 1, 2, 3, 5, 6, 7, 8, 9, 10, 11, 12, 13, 14, 15, 16, 17, 18, 19, 20, 21, 22, 23, 24, 25, 26, 27, 28, 29, 30, 31, 32, 33, 34, 35, 36, 37, 38, 39, 40, 41, 42, 43, 44] 45 rfl rfl rfl) (fun v w1 hp1 => ?_)
    obtain ⟨rfl, rfl⟩ := hp1
    refine rr_aload_n 2 dL_law_498 rfl ?_
    refine rr_aload_n 0 dL_law_499 rfl ?_
    refine rr_iload_n 3 dL_law_500 rfl ?_
    refine rr_iconst dL_law_501 ?_
    refine rr_iadd dL_law_502 ?_
    refine rr_sldZ (y := y1) (i + 1) (by omega) (by omega) (by omega) ey1 dL_law_503 ?_
    refine rr_aload_n 0 dL_law_504 rfl ?_
    refine rr_iload_n 3 dL_law_505 rfl ?_
    refine rr_iconst dL_law_506 ?_
    refine rr_iadd dL_law_507 ?_
    refine rr_sldZ (y := y2) (i + 2) (by omega) (by omega) (by omega) ey2 dL_law_508 ?_
    refine rr_callG (wr := [(mP, aI E 21 pg), (mW, aI E 10 wn), (mR, aI E 12 ro), (mB, aI E 7 bg), (mS, aI E 7 st), (mA, aI E 56 was), (mK, aI E 14 kp), (mE, aI E 18 sn), (mT, aI E 200 tx2), (mD, aI E 4 mtd), (nP, aI E 21 rpg), (nW, aI E 10 rwn), (nR, aI E 12 rro), (nB, aI E 7 rbg), (mN, aI E 7 nw), (mO, aI E 7 rw), (mQ, aI E 49 rs), (mX, aI E 7 ot)]) (call_V (q0 := 0) kL_83 (c_Meither_bad E 14 m mP mW mR mB mS mA mK mE mT mD nP nW nR nB mN mO mQ mX np nr sz sz2 ns len mat rp rr dp y1 y2 g1 g2_ hp.1 hy) rfl rfl rfl rfl (by omega) (by decide) (Nat.le_of_ble_eq_true rfl) (Nat.le_of_ble_eq_true rfl) dL_law_509) hmw (perm_idx [0, 1, 2, 3, 4, 5, 6, 7, 8, 9, 10, 11, 12, 13, 14, 15, 16, 17, 18] 19 rfl rfl rfl) (fun v2 w2 hp2 => ?_)
    obtain ⟨rfl, rfl⟩ := hp2
    refine RR.eq (st2 := [Value.int _, Value.int _]) rfl rfl rfl rfl ?_
    refine rr_eqT 797 dL_law_512 (by decide) rfl ?_
    refine K _ (INV_mk E x m len tx np kd lf qt wd nr rx ry sh h sz g sz2 g2 ns sp sc sv tx2 pg wn ro bg st was kp sn hlen hp hr hsh hs4 hs6 hnp ho hv hsz hg hsz2 hg2 hso etx epl ero ebg est ewa ekp esn ?_ ?_)
    · exact ⟨s, p, z, a, b, c, f, k, q, o, sg, nm, at_, t, pK, pL, pQ, pW, pX, pY, pS, zK, zL, zQ, zW, zX, zY, zS, np0, nr0, kd0, lf0, qt0, wd0, rx0, ry0, sh0, g0, g00, ar, ar2, u, u2, qp, qc, qv, fl, ln, mt, fr, Q, f0, lin, mts, hnm, h04, h06, perm_idx [0, 2, 3, 4, 1, 5, 6, 7, 8, 9, 10, 11, 12, 13, 14, 15, 16, 17, 18, 19, 20, 21, 22, 23, 24, 25, 26, 27, 28, 29, 30, 31, 32, 33, 34, 35, 36, 37, 38, 39, 40, 41, 42, 43, 44] 45 rfl rfl rfl⟩
    · exact ⟨mP, mW, mR, mB, mS, mA, mK, mE, mT, mD, nP, nW, nR, nB, mN, mO, mQ, mX, mat, mtd, rp, rr, rpg, rwn, rro, rbg, nw, rw, rs, dp, ot, hnmM, perm_idx [0, 1, 2, 3, 4, 5, 6, 7, 8, 9, 10, 11, 12, 13, 14, 15, 16, 17, 18] 19 rfl rfl rfl⟩
set_option maxRecDepth 100000 in
set_option maxHeartbeats 1000000 in
theorem lw_drift {E : Ev} {x m i kc ks : Nat} {ws : va_W} {post : Option Value → va_W → Prop} (hL : eL E ≤ 256) (hi : i + 4 ≤ eL E) (hJ : INV E x m ws) (K : ∀ ws2 : va_W, INV E x m ws2 → RR E mL_law 20 kc ks 797 [(0, .ref (eB E)), (1, .ref x), (2, .ref m), (3, .int (zz (i : Int)))] [] ws2 post) : RR E mL_law 20 kc ks 517 [(0, .ref (eB E)), (1, .ref x), (2, .ref m), (3, .int (zz (i : Int)))] [] ws post := by
  obtain ⟨len, tx, np, kd, lf, qt, wd, nr, rx, ry, sh, h, sz, g, sz2, g2, ns, sp, sc, sv, tx2, pg, wn, ro, bg, st, was, kp, sn, cw, mw, hlen, hp, hr, hsh, hs4, hs6, hnp, ho, hv, hsz, hg, hsz2, hg2, hso, etx, epl, ero, ebg, est, ewa, ekp, esn, hC, hM, rfl⟩ := hJ
  obtain ⟨s, p, z, a, b, c, f, k, q, o, sg, nm, at_, t, pK, pL, pQ, pW, pX, pY, pS, zK, zL, zQ, zW, zX, zY, zS, np0, nr0, kd0, lf0, qt0, wd0, rx0, ry0, sh0, g0, g00, ar, ar2, u, u2, qp, qc, qv, fl, ln, mt, fr, Q, f0, lin, mts, hnm, h04, h06, hcw⟩ := hC
  obtain ⟨mP, mW, mR, mB, mS, mA, mK, mE, mT, mD, nP, nW, nR, nB, mN, mO, mQ, mX, mat, mtd, rp, rr, rpg, rwn, rro, rbg, nw, rw, rs, dp, ot, hnmM, hmw⟩ := hM
  obtain ⟨y1, g1, ey1⟩ := zz_of (eX E (i + 1))
  by_cases hy : 1 ≤ y1 ∧ y1 ≤ 20
  · skip
    by_cases hd : h 2 = 0
    · skip
      refine rr_aload_n 1 dL_law_517 rfl ?_
      refine rr_aload_n 0 dL_law_518 rfl ?_
      refine rr_iload_n 3 dL_law_519 rfl ?_
      refine rr_iconst dL_law_520 ?_
      refine rr_iadd dL_law_521 ?_
      refine rr_sldZ (y := y1) (i + 1) (by omega) (by omega) (by omega) ey1 dL_law_522 ?_
      refine rr_callF (wr := [(s, ob 3 [.ref sg, .ref nm, .int (zz ↑len), .int (zz ↑at_)]), (sg, aC E 200 tx), (nm, aI E 4 t), (p, ob 2 [.ref pK, .ref pL, .ref pQ, .ref pW, .ref pX, .ref pY, .ref pS, .int (zz ↑np), .int (zz ↑nr)]), (pK, aI E 7 kd), (pL, aI E 7 lf), (pQ, aI E 7 qt), (pW, aI E 10 wd), (pX, aI E 6 rx), (pY, aI E 6 ry), (pS, hO sh), (z, ob 2 [.ref zK, .ref zL, .ref zQ, .ref zW, .ref zX, .ref zY, .ref zS, .int (zz ↑np0), .int (zz ↑nr0)]), (zK, aI E 7 kd0), (zL, aI E 7 lf0), (zQ, aI E 7 qt0), (zW, aI E 10 wd0), (zX, aI E 6 rx0), (zY, aI E 6 ry0), (zS, hO sh0), (b, hO g0), (c, hO g00), (f, ob 4 [.ref ar, .int (zz ↑sz)]), (ar, aH E 8 (fun i => some (u i))), ((u 0), hO (g 0)), ((u 1), hO (g 1)), ((u 2), hO (g 2)), ((u 3), hO (g 3)), ((u 4), hO (g 4)), ((u 5), hO (g 5)), ((u 6), hO (g 6)), ((u 7), hO (g 7)), (k, ob 4 [.ref ar2, .int (zz ↑sz2)]), (ar2, aH E 2 (fun i => some (u2 i))), ((u2 0), hO (g2 0)), ((u2 1), hO (g2 1)), (q, ob 5 [.ref qp, .ref qc, .ref qv, .int (zz ↑ns)]), (qp, aI E 6 sp), (qc, aI E 6 sc), (qv, aI E 6 sv), (o, ob 1 [.ref p, .ref fl, .ref ln, .ref mt, .int (zz ↑fr), .int (zz (↑(Q.length)))]), (fl, hO f0), (ln, aI E 8000 lin), (mt, aI E 250 mts)]) (call_V (q0 := 0) kL_84 (c_drift_no E 16 x s p z a b c f k q o h y1 hy hd) rfl rfl rfl rfl (by omega) (by decide) (Nat.le_of_ble_eq_true rfl) (Nat.le_of_ble_eq_true rfl) dL_law_523) hcw (perm_idx [0, 20, 1, 2, 3, 4, 5, 6, 7, 8, 9, 10, 11, 12, 13, 14, 15, 16, 17, 18, 19, 21, 22, 23, 24, 25, 26, 27, 28, 29, 30, 31, 32, 33, 34, 35, 36, 37, 38, 39, 40, 41, 42, 43, 44] 45 rfl rfl rfl) (fun v w1 hp1 => ?_)
      obtain ⟨rfl, rfl⟩ := hp1
      refine rr_aload_n 2 dL_law_526 rfl ?_
      refine rr_aload_n 0 dL_law_527 rfl ?_
      refine rr_iload_n 3 dL_law_528 rfl ?_
      refine rr_iconst dL_law_529 ?_
      refine rr_iadd dL_law_530 ?_
      refine rr_sldZ (y := y1) (i + 1) (by omega) (by omega) (by omega) ey1 dL_law_531 ?_
      refine rr_callG (wr := [(mP, aI E 21 pg), (mW, aI E 10 wn), (mR, aI E 12 ro), (mB, aI E 7 bg), (mA, aI E 56 was), (mK, aI E 14 kp), (mE, aI E 18 sn), (mT, aI E 200 tx2), (mD, aI E 4 mtd), (nP, aI E 21 rpg), (nW, aI E 10 rwn), (nR, aI E 12 rro), (nB, aI E 7 rbg), (mO, aI E 7 rw), (mQ, aI E 49 rs), (mX, aI E 7 ot)]) (call_V (q0 := 0) kL_87 (c_Mdrift_no E 16 m mP mW mR mB mS mA mK mE mT mD nP nW nR nB mN mO mQ mX np nr sz sz2 ns len mat rp rr dp pg wn ro nw st kd lf qt wd rx ry h epl hp ero hr est ho hv y1 hy hd) rfl rfl rfl rfl (by omega) (by decide) (Nat.le_of_ble_eq_true rfl) (Nat.le_of_ble_eq_true rfl) dL_law_532) hmw (perm_idx [0, 15, 5, 1, 2, 3, 4, 6, 7, 8, 9, 10, 11, 12, 13, 14, 16, 17, 18] 19 rfl rfl rfl) (fun v2 w2 hp2 => ?_)
      obtain ⟨rfl, nw2, rfl⟩ := hp2
      refine RR.eq (st2 := [Value.int _, Value.int _]) rfl rfl rfl rfl ?_
      refine rr_eqT 797 dL_law_535 (by decide) rfl ?_
      refine K _ (INV_mk E x m len tx np kd lf qt wd nr rx ry sh h sz g sz2 g2 ns sp sc sv tx2 pg wn ro bg st was kp sn hlen hp hr hsh hs4 hs6 hnp ho hv hsz hg hsz2 hg2 hso etx epl ero ebg est ewa ekp esn ?_ ?_)
      · exact ⟨s, p, z, a, b, c, f, k, q, o, sg, nm, at_, t, pK, pL, pQ, pW, pX, pY, pS, zK, zL, zQ, zW, zX, zY, zS, np0, nr0, kd0, lf0, qt0, wd0, rx0, ry0, sh0, g0, g00, ar, ar2, u, u2, qp, qc, qv, fl, ln, mt, fr, Q, f0, lin, mts, hnm, h04, h06, perm_idx [0, 2, 3, 4, 5, 6, 7, 8, 9, 10, 11, 12, 13, 14, 15, 16, 17, 18, 19, 20, 1, 21, 22, 23, 24, 25, 26, 27, 28, 29, 30, 31, 32, 33, 34, 35, 36, 37, 38, 39, 40, 41, 42, 43, 44] 45 rfl rfl rfl⟩
      · exact ⟨mP, mW, mR, mB, mS, mA, mK, mE, mT, mD, nP, nW, nR, nB, mN, mO, mQ, mX, mat, mtd, rp, rr, rpg, rwn, rro, rbg, nw2, rw, rs, dp, ot, hnmM, perm_idx [0, 3, 4, 5, 6, 2, 7, 8, 9, 10, 11, 12, 13, 14, 15, 1, 16, 17, 18] 19 rfl rfl rfl⟩
    · skip
      obtain ⟨ip, rfl⟩ : ∃ n : Nat, y1 = (n : Int) := ⟨y1.toNat, by omega⟩
      have hip : 1 ≤ ip ∧ ip ≤ 20 := by omega
      refine rr_aload_n 1 dL_law_517 rfl ?_
      refine rr_aload_n 0 dL_law_518 rfl ?_
      refine rr_iload_n 3 dL_law_519 rfl ?_
      refine rr_iconst dL_law_520 ?_
      refine rr_iadd dL_law_521 ?_
      refine rr_sldZ (y := ↑ip) (i + 1) (by omega) (by omega) (by omega) ey1 dL_law_522 ?_
      refine rr_callF (wr := [(s, ob 3 [.ref sg, .ref nm, .int (zz ↑len), .int (zz ↑at_)]), (sg, aC E 200 tx), (nm, aI E 4 t), (pK, aI E 7 kd), (pL, aI E 7 lf), (pQ, aI E 7 qt), (pX, aI E 6 rx), (pY, aI E 6 ry), (pS, hO sh), (z, ob 2 [.ref zK, .ref zL, .ref zQ, .ref zW, .ref zX, .ref zY, .ref zS, .int (zz ↑np0), .int (zz ↑nr0)]), (zK, aI E 7 kd0), (zL, aI E 7 lf0), (zQ, aI E 7 qt0), (zW, aI E 10 wd0), (zX, aI E 6 rx0), (zY, aI E 6 ry0), (zS, hO sh0), (c, hO g00), (f, ob 4 [.ref ar, .int (zz ↑sz)]), (ar, aH E 8 (fun i => some (u i))), ((u 0), hO (g 0)), ((u 1), hO (g 1)), ((u 2), hO (g 2)), ((u 3), hO (g 3)), ((u 4), hO (g 4)), ((u 5), hO (g 5)), ((u 6), hO (g 6)), ((u 7), hO (g 7)), (k, ob 4 [.ref ar2, .int (zz ↑sz2)]), (ar2, aH E 2 (fun i => some (u2 i))), ((u2 0), hO (g2 0)), ((u2 1), hO (g2 1)), (q, ob 5 [.ref qp, .ref qc, .ref qv, .int (zz ↑ns)]), (qp, aI E 6 sp), (qc, aI E 6 sc), (qv, aI E 6 sv), (o, ob 1 [.ref p, .ref fl, .ref ln, .ref mt, .int (zz ↑fr), .int (zz (↑(Q.length)))]), (fl, hO f0), (ln, aI E 8000 lin), (mt, aI E 250 mts)]) (call_V (q0 := 0) kL_84 (c_drift_y E 16 x s p z a b c f k q o pK pL pQ pW pX pY pS np nr kd lf qt wd h g0 hp ho ip hip hd) rfl rfl rfl rfl (by omega) (by decide) (Nat.le_of_ble_eq_true rfl) (Nat.le_of_ble_eq_true rfl) dL_law_523) hcw (perm_idx [0, 4, 8, 20, 21, 1, 2, 3, 5, 6, 7, 9, 10, 11, 12, 13, 14, 15, 16, 17, 18, 19, 22, 23, 24, 25, 26, 27, 28, 29, 30, 31, 32, 33, 34, 35, 36, 37, 38, 39, 40, 41, 42, 43, 44] 45 rfl rfl rfl) (fun v w1 hp1 => ?_)
      obtain ⟨rfl, g1, rfl⟩ := hp1
      refine rr_aload_n 2 dL_law_526 rfl ?_
      refine rr_aload_n 0 dL_law_527 rfl ?_
      refine rr_iload_n 3 dL_law_528 rfl ?_
      refine rr_iconst dL_law_529 ?_
      refine rr_iadd dL_law_530 ?_
      refine rr_sldZ (y := ↑ip) (i + 1) (by omega) (by omega) (by omega) ey1 dL_law_531 ?_
      refine rr_callG (wr := [(mP, aI E 21 pg), (mR, aI E 12 ro), (mB, aI E 7 bg), (mA, aI E 56 was), (mK, aI E 14 kp), (mE, aI E 18 sn), (mT, aI E 200 tx2), (mD, aI E 4 mtd), (nP, aI E 21 rpg), (nW, aI E 10 rwn), (nR, aI E 12 rro), (nB, aI E 7 rbg), (mO, aI E 7 rw), (mQ, aI E 49 rs), (mX, aI E 7 ot)]) (call_V (q0 := 0) kL_87 (c_Mdrift_y E 16 m mP mW mR mB mS mA mK mE mT mD nP nW nR nB mN mO mQ mX np nr sz sz2 ns len mat rp rr dp pg wn ro nw st kd lf qt wd rx ry h epl hp ero hr est ho hv ip hip hd) rfl rfl rfl rfl (by omega) (by decide) (Nat.le_of_ble_eq_true rfl) (Nat.le_of_ble_eq_true rfl) dL_law_532) hmw (perm_idx [0, 2, 15, 5, 1, 3, 4, 6, 7, 8, 9, 10, 11, 12, 13, 14, 16, 17, 18] 19 rfl rfl rfl) (fun v2 w2 hp2 => ?_)
      obtain ⟨rfl, nw2, rfl⟩ := hp2
      refine RR.eq (st2 := [Value.int _, Value.int _]) rfl rfl rfl rfl ?_
      refine rr_eqT 797 dL_law_535 (by decide) rfl ?_
      refine K _ (INV_mk E x m len tx np kd lf qt wd nr rx ry sh h sz g sz2 g2 ns sp sc sv tx2 pg wn ro bg st was kp sn hlen hp hr hsh hs4 hs6 hnp ho hv hsz hg hsz2 hg2 hso etx epl ero ebg est ewa ekp esn ?_ ?_)
      · exact ⟨s, p, z, a, b, c, f, k, q, o, sg, nm, at_, t, pK, pL, pQ, pW, pX, pY, pS, zK, zL, zQ, zW, zX, zY, zS, np0, nr0, kd0, lf0, qt0, wd0, rx0, ry0, sh0, g1, g00, ar, ar2, u, u2, qp, qc, qv, fl, ln, mt, fr, Q, f0, lin, mts, hnm, h04, h06, perm_idx [0, 5, 6, 7, 1, 8, 9, 10, 2, 11, 12, 13, 14, 15, 16, 17, 18, 19, 20, 21, 3, 4, 22, 23, 24, 25, 26, 27, 28, 29, 30, 31, 32, 33, 34, 35, 36, 37, 38, 39, 40, 41, 42, 43, 44] 45 rfl rfl rfl⟩
      · exact ⟨mP, mW, mR, mB, mS, mA, mK, mE, mT, mD, nP, nW, nR, nB, mN, mO, mQ, mX, mat, mtd, rp, rr, rpg, rwn, rro, rbg, nw2, rw, rs, dp, ot, hnmM, perm_idx [0, 4, 1, 5, 6, 3, 7, 8, 9, 10, 11, 12, 13, 14, 15, 2, 16, 17, 18] 19 rfl rfl rfl⟩
  · skip
    refine rr_aload_n 1 dL_law_517 rfl ?_
    refine rr_aload_n 0 dL_law_518 rfl ?_
    refine rr_iload_n 3 dL_law_519 rfl ?_
    refine rr_iconst dL_law_520 ?_
    refine rr_iadd dL_law_521 ?_
    refine rr_sldZ (y := y1) (i + 1) (by omega) (by omega) (by omega) ey1 dL_law_522 ?_
    refine rr_callF (wr := [(s, ob 3 [.ref sg, .ref nm, .int (zz ↑len), .int (zz ↑at_)]), (sg, aC E 200 tx), (nm, aI E 4 t), (p, ob 2 [.ref pK, .ref pL, .ref pQ, .ref pW, .ref pX, .ref pY, .ref pS, .int (zz ↑np), .int (zz ↑nr)]), (pK, aI E 7 kd), (pL, aI E 7 lf), (pQ, aI E 7 qt), (pW, aI E 10 wd), (pX, aI E 6 rx), (pY, aI E 6 ry), (pS, hO sh), (z, ob 2 [.ref zK, .ref zL, .ref zQ, .ref zW, .ref zX, .ref zY, .ref zS, .int (zz ↑np0), .int (zz ↑nr0)]), (zK, aI E 7 kd0), (zL, aI E 7 lf0), (zQ, aI E 7 qt0), (zW, aI E 10 wd0), (zX, aI E 6 rx0), (zY, aI E 6 ry0), (zS, hO sh0), (a, hO h), (b, hO g0), (c, hO g00), (f, ob 4 [.ref ar, .int (zz ↑sz)]), (ar, aH E 8 (fun i => some (u i))), ((u 0), hO (g 0)), ((u 1), hO (g 1)), ((u 2), hO (g 2)), ((u 3), hO (g 3)), ((u 4), hO (g 4)), ((u 5), hO (g 5)), ((u 6), hO (g 6)), ((u 7), hO (g 7)), (k, ob 4 [.ref ar2, .int (zz ↑sz2)]), (ar2, aH E 2 (fun i => some (u2 i))), ((u2 0), hO (g2 0)), ((u2 1), hO (g2 1)), (q, ob 5 [.ref qp, .ref qc, .ref qv, .int (zz ↑ns)]), (qp, aI E 6 sp), (qc, aI E 6 sc), (qv, aI E 6 sv), (o, ob 1 [.ref p, .ref fl, .ref ln, .ref mt, .int (zz ↑fr), .int (zz (↑(Q.length)))]), (fl, hO f0), (ln, aI E 8000 lin), (mt, aI E 250 mts)]) (call_V (q0 := 0) kL_84 (c_drift_bad E 16 x s p z a b c f k q o y1 g1 hy) rfl rfl rfl rfl (by omega) (by decide) (Nat.le_of_ble_eq_true rfl) (Nat.le_of_ble_eq_true rfl) dL_law_523) hcw (perm_idx [0, 1, 2, 3, 4, 5, 6, 7, 8, 9, 10, 11, 12, 13, 14, 15, 16, 17, 18, 19, 20, 21, 22, 23, 24, 25, 26, 27, 28, 29, 30, 31, 32, 33, 34, 35, 36, 37, 38, 39, 40, 41, 42, 43, 44] 45 rfl rfl rfl) (fun v w1 hp1 => ?_)
    obtain ⟨rfl, rfl⟩ := hp1
    refine rr_aload_n 2 dL_law_526 rfl ?_
    refine rr_aload_n 0 dL_law_527 rfl ?_
    refine rr_iload_n 3 dL_law_528 rfl ?_
    refine rr_iconst dL_law_529 ?_
    refine rr_iadd dL_law_530 ?_
    refine rr_sldZ (y := y1) (i + 1) (by omega) (by omega) (by omega) ey1 dL_law_531 ?_
    refine rr_callG (wr := [(mP, aI E 21 pg), (mW, aI E 10 wn), (mR, aI E 12 ro), (mB, aI E 7 bg), (mS, aI E 7 st), (mA, aI E 56 was), (mK, aI E 14 kp), (mE, aI E 18 sn), (mT, aI E 200 tx2), (mD, aI E 4 mtd), (nP, aI E 21 rpg), (nW, aI E 10 rwn), (nR, aI E 12 rro), (nB, aI E 7 rbg), (mN, aI E 7 nw), (mO, aI E 7 rw), (mQ, aI E 49 rs), (mX, aI E 7 ot)]) (call_V (q0 := 0) kL_87 (c_Mdrift_bad E 16 m mP mW mR mB mS mA mK mE mT mD nP nW nR nB mN mO mQ mX np nr sz sz2 ns len mat rp rr dp y1 g1 hy) rfl rfl rfl rfl (by omega) (by decide) (Nat.le_of_ble_eq_true rfl) (Nat.le_of_ble_eq_true rfl) dL_law_532) hmw (perm_idx [0, 1, 2, 3, 4, 5, 6, 7, 8, 9, 10, 11, 12, 13, 14, 15, 16, 17, 18] 19 rfl rfl rfl) (fun v2 w2 hp2 => ?_)
    obtain ⟨rfl, rfl⟩ := hp2
    refine RR.eq (st2 := [Value.int _, Value.int _]) rfl rfl rfl rfl ?_
    refine rr_eqT 797 dL_law_535 (by decide) rfl ?_
    refine K _ (INV_mk E x m len tx np kd lf qt wd nr rx ry sh h sz g sz2 g2 ns sp sc sv tx2 pg wn ro bg st was kp sn hlen hp hr hsh hs4 hs6 hnp ho hv hsz hg hsz2 hg2 hso etx epl ero ebg est ewa ekp esn ?_ ?_)
    · exact ⟨s, p, z, a, b, c, f, k, q, o, sg, nm, at_, t, pK, pL, pQ, pW, pX, pY, pS, zK, zL, zQ, zW, zX, zY, zS, np0, nr0, kd0, lf0, qt0, wd0, rx0, ry0, sh0, g0, g00, ar, ar2, u, u2, qp, qc, qv, fl, ln, mt, fr, Q, f0, lin, mts, hnm, h04, h06, perm_idx [0, 1, 2, 3, 4, 5, 6, 7, 8, 9, 10, 11, 12, 13, 14, 15, 16, 17, 18, 19, 20, 21, 22, 23, 24, 25, 26, 27, 28, 29, 30, 31, 32, 33, 34, 35, 36, 37, 38, 39, 40, 41, 42, 43, 44] 45 rfl rfl rfl⟩
    · exact ⟨mP, mW, mR, mB, mS, mA, mK, mE, mT, mD, nP, nW, nR, nB, mN, mO, mQ, mX, mat, mtd, rp, rr, rpg, rwn, rro, rbg, nw, rw, rs, dp, ot, hnmM, perm_idx [0, 1, 2, 3, 4, 5, 6, 7, 8, 9, 10, 11, 12, 13, 14, 15, 16, 17, 18] 19 rfl rfl rfl⟩
