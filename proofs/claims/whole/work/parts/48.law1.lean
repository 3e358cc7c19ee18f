/-! ===== the law, call by call ===== -/
abbrev mL_law : MethodName × ByteArray × Nat × Option FieldType := (yL_law, cL_law, 4, some .boolean)
theorem rr_eqT {E : Ev} {M : Mt} {d kc ks pc : Nat} {lv : List (Nat × Value)} {st : List Value} {ws : va_W} {post : Option Value → va_W → Prop} {x y : Int32} {off : Int} (tgt : Nat) (hd : decode M.2.1 pc = .ok (.if_icmp .eq off, 3)) (ht : (pc : Int) + off = (tgt : Int)) (h : x = y) (K : RR E M d kc ks tgt lv st ws post) : RR E M d kc ks pc lv (.int y :: .int x :: st) ws post := by
  intro p l e R s m args below meth c A mc ms Q cells slots H locs ls hC hF hk hs hP hD hS hl
  exact lv_icmp_eq hC.1 hC.2.1 hd ht (fun _ => K _ _ _ _ _ _ _ _ _ _ _ _ _ _ _ _ _ _ _ hC hF hk hs hP hD hS hl) (fun z => absurd h z)
theorem INV_mk (E : Ev) (x m : Nat) (len : Nat) (tx : Nat → Int) (np : Nat) (kd lf qt wd : Nat → Int) (nr : Nat) (rx ry sh h : Nat → Int) (sz : Nat) (g : Nat → Nat → Int) (sz2 : Nat) (g2 : Nat → Nat → Int) (ns : Nat) (sp sc sv tx2 pg wn ro bg st was kp sn : Nat → Int) {cw mw : va_W} (hlen : len ≤ 200 ∧ ∀ j, j < len → 32 ≤ tx j ∧ tx j ≤ 126) (hp : pOK np kd lf qt wd) (hr : rOK nr rx ry) (hsh : hOK sh) (hs4 : sh 4 = 0) (hs6 : sh 6 = -4) (hnp : 1 ≤ np) (ho : hOK h) (hv : hV np h) (hsz : sz ≤ 8) (hg : ∀ j, j < sz → hOK (g j) ∧ hV np (g j)) (hsz2 : sz2 ≤ 2) (hg2 : ∀ j, j < sz2 → hOK (g2 j) ∧ hV np (g2 j)) (hso : sOK ns sp sc sv) (etx : AG len tx tx2) (epl : PL np kd lf qt wd pg wn) (ero : RoL nr rx ry ro) (ebg : AG 7 bg (amF sh)) (est : AG 7 st (amF h)) (ewa : WL sz g was) (ekp : WL sz2 g2 kp) (esn : SL ns sp sc sv sn) (hC : CJ E x len tx np kd lf qt wd nr rx ry sh h sz g sz2 g2 ns sp sc sv cw) (hM : MJ E m len tx2 np pg wn nr ro bg st sz was sz2 kp ns sn mw) : INV E x m (cw ++ mw) :=
  ⟨len, tx, np, kd, lf, qt, wd, nr, rx, ry, sh, h, sz, g, sz2, g2, ns, sp, sc, sv, tx2, pg, wn, ro, bg, st, was, kp, sn, cw, mw, hlen, hp, hr, hsh, hs4, hs6, hnp, ho, hv, hsz, hg, hsz2, hg2, hso, etx, epl, ero, ebg, est, ewa, ekp, esn, hC, hM, rfl⟩
section UPS
variable {len np ns sz2 : Nat} {tx tx2 h sp sc sv : Nat → Int} {g2 : Nat → Nat → Int} {y p c v : Int}
theorem len_add (h : len ≤ 200 ∧ ∀ j, j < len → 32 ≤ tx j ∧ tx j ≤ 126) (hn : len < 200) (hy : 32 ≤ y ∧ y ≤ 126) : len + 1 ≤ 200 ∧ ∀ j, j < len + 1 → 32 ≤ updI tx len y j ∧ updI tx len y j ≤ 126 := by
  refine ⟨by omega, fun j hj => ?_⟩
  unfold updI
  split
  · exact hy
  · exact h.2 j (by omega)
theorem AG_add (h : AG len tx tx2) : AG (len + 1) (updI tx len y) (updI tx2 len y) := by
  intro j hj
  unfold updI
  split
  · rfl
  · exact h j (by omega)
theorem tx_ok (h : len ≤ 200 ∧ ∀ j, j < len → 32 ≤ tx j ∧ tx j ≤ 126) : txOK tx len := ⟨h.1, fun j hj => by have := h.2 j hj; omega⟩
theorem tx_ok2 (h : len ≤ 200 ∧ ∀ j, j < len → 32 ≤ tx j ∧ tx j ≤ 126) (ha : AG len tx tx2) : txOK tx2 len := ⟨h.1, fun j hj => by have := h.2 j hj; have := ha j hj; omega⟩
theorem hOK_down (ho : hOK h) : hOK (updI (updI (updI h 5 1) 2 1) 6 (-4)) := by
  obtain ⟨o0, o1, o2, o3, o5, o6⟩ := ho
  refine ⟨o0, o1, ?_, o3, ?_, ?_⟩
  · show (0 : Int) ≤ 1 ∧ (1 : Int) ≤ 9
    omega
  · show (1 : Int) ≤ 1 ∧ (1 : Int) ≤ 2
    omega
  · show (-4 : Int) ≤ -4 ∧ (-4 : Int) < 7
    omega
theorem updG_all {Q : (Nat → Int) → Prop} (hg : ∀ k, k < sz2 → Q (g2 k)) (hh : Q h) : ∀ k, k < sz2 + 1 → Q (updG g2 sz2 h k) := by
  intro k hk
  unfold updG
  by_cases e : k = sz2
  · rw [if_pos e]; exact hh
  · rw [if_neg e]; exact hg k (by omega)
theorem sOK_add (hs : sOK ns sp sc sv) (hn : ns < 6) (hp : 0 ≤ p ∧ p < 7) (hc : 0 ≤ c ∧ c ≤ 3) (hv : 0 ≤ v ∧ v ≤ 36) : sOK (ns + 1) (updI sp ns p) (updI sc ns c) (updI sv ns (v - 18)) := by
  refine ⟨by omega, fun k hk => ?_⟩
  by_cases e : k = ns
  · subst e
    rw [updI_eq, updI_eq, updI_eq]
    exact ⟨hp, hc, by omega, by omega⟩
  · rw [updI_ne e, updI_ne e, updI_ne e]
    exact hs.2 k (by omega)
end UPS
set_option maxRecDepth 100000 in
set_option maxHeartbeats 1000000 in
theorem lw_write {E : Ev} {x m i kc ks : Nat} {ws : va_W} {post : Option Value → va_W → Prop} (hL : eL E ≤ 256) (hi : i + 4 ≤ eL E) (hJ : INV E x m ws) (K : ∀ ws2 : va_W, INV E x m ws2 → RR E mL_law 20 kc ks 797 [(0, .ref (eB E)), (1, .ref x), (2, .ref m), (3, .int (zz (i : Int)))] [] ws2 post) : RR E mL_law 20 kc ks 156 [(0, .ref (eB E)), (1, .ref x), (2, .ref m), (3, .int (zz (i : Int)))] [] ws post := by
  obtain ⟨len, tx, np, kd, lf, qt, wd, nr, rx, ry, sh, h, sz, g, sz2, g2, ns, sp, sc, sv, tx2, pg, wn, ro, bg, st, was, kp, sn, cw, mw, hlen, hp, hr, hsh, hs4, hs6, hnp, ho, hv, hsz, hg, hsz2, hg2, hso, etx, epl, ero, ebg, est, ewa, ekp, esn, hC, hM, rfl⟩ := hJ
  obtain ⟨s, p, z, a, b, c, f, k, q, o, sg, nm, at_, t, pK, pL, pQ, pW, pX, pY, pS, zK, zL, zQ, zW, zX, zY, zS, np0, nr0, kd0, lf0, qt0, wd0, rx0, ry0, sh0, g0, g00, ar, ar2, u, u2, qp, qc, qv, fl, ln, mt, fr, Q, f0, lin, mts, hnm, h04, h06, hcw⟩ := hC
  obtain ⟨mP, mW, mR, mB, mS, mA, mK, mE, mT, mD, nP, nW, nR, nB, mN, mO, mQ, mX, mat, mtd, rp, rr, rpg, rwn, rro, rbg, nw, rw, rs, dp, ot, hnmM, hmw⟩ := hM
  obtain ⟨y1, g1, ey1⟩ := zz_of (eX E (i + 1))
  by_cases hl : 32 ≤ y1 ∧ y1 ≤ 126
  · skip
    by_cases hn : len < 200
    · skip
      refine rr_aload_n 1 dL_law_156 rfl ?_
      refine rr_aload_n 0 dL_law_157 rfl ?_
      refine rr_iload_n 3 dL_law_158 rfl ?_
      refine rr_iconst dL_law_159 ?_
      refine rr_iadd dL_law_160 ?_
      refine rr_sldZ (y := y1) (i + 1) (by omega) (by omega) (by omega) ey1 dL_law_161 ?_
      refine rr_callF (wr := [(nm, aI E 4 t), (p, ob 2 [.ref pK, .ref pL, .ref pQ, .ref pW, .ref pX, .ref pY, .ref pS, .int (zz ↑np), .int (zz ↑nr)]), (pK, aI E 7 kd), (pL, aI E 7 lf), (pQ, aI E 7 qt), (pW, aI E 10 wd), (pX, aI E 6 rx), (pY, aI E 6 ry), (pS, hO sh), (z, ob 2 [.ref zK, .ref zL, .ref zQ, .ref zW, .ref zX, .ref zY, .ref zS, .int (zz ↑np0), .int (zz ↑nr0)]), (zK, aI E 7 kd0), (zL, aI E 7 lf0), (zQ, aI E 7 qt0), (zW, aI E 10 wd0), (zX, aI E 6 rx0), (zY, aI E 6 ry0), (zS, hO sh0), (a, hO h), (b, hO g0), (c, hO g00), (f, ob 4 [.ref ar, .int (zz ↑sz)]), (ar, aH E 8 (fun i => some (u i))), ((u 0), hO (g 0)), ((u 1), hO (g 1)), ((u 2), hO (g 2)), ((u 3), hO (g 3)), ((u 4), hO (g 4)), ((u 5), hO (g 5)), ((u 6), hO (g 6)), ((u 7), hO (g 7)), (k, ob 4 [.ref ar2, .int (zz ↑sz2)]), (ar2, aH E 2 (fun i => some (u2 i))), ((u2 0), hO (g2 0)), ((u2 1), hO (g2 1)), (q, ob 5 [.ref qp, .ref qc, .ref qv, .int (zz ↑ns)]), (qp, aI E 6 sp), (qc, aI E 6 sc), (qv, aI E 6 sv), (o, ob 1 [.ref p, .ref fl, .ref ln, .ref mt, .int (zz ↑fr), .int (zz (↑(Q.length)))]), (fl, hO f0), (ln, aI E 8000 lin), (mt, aI E 250 mts)]) (call_V (q0 := 0) kL_13 (c_write_y E 18 x s p z a b c f k q o sg nm len tx at_ y1 hl hn) rfl rfl rfl rfl (by omega) (by decide) (Nat.le_of_ble_eq_true rfl) (Nat.le_of_ble_eq_true rfl) dL_law_162) hcw (perm_idx [0, 1, 2, 3, 4, 5, 6, 7, 8, 9, 10, 11, 12, 13, 14, 15, 16, 17, 18, 19, 20, 21, 22, 23, 24, 25, 26, 27, 28, 29, 30, 31, 32, 33, 34, 35, 36, 37, 38, 39, 40, 41, 42, 43, 44] 45 rfl rfl rfl) (fun v w1 hp1 => ?_)
      obtain ⟨rfl, rfl⟩ := hp1
      refine rr_aload_n 2 dL_law_165 rfl ?_
      refine rr_aload_n 0 dL_law_166 rfl ?_
      refine rr_iload_n 3 dL_law_167 rfl ?_
      refine rr_iconst dL_law_168 ?_
      refine rr_iadd dL_law_169 ?_
      refine rr_sldZ (y := y1) (i + 1) (by omega) (by omega) (by omega) ey1 dL_law_170 ?_
      refine rr_callG (wr := [(mP, aI E 21 pg), (mW, aI E 10 wn), (mR, aI E 12 ro), (mB, aI E 7 bg), (mS, aI E 7 st), (mA, aI E 56 was), (mK, aI E 14 kp), (mE, aI E 18 sn), (mD, aI E 4 mtd), (nP, aI E 21 rpg), (nW, aI E 10 rwn), (nR, aI E 12 rro), (nB, aI E 7 rbg), (mN, aI E 7 nw), (mO, aI E 7 rw), (mQ, aI E 49 rs), (mX, aI E 7 ot)]) (call_V (q0 := 0) kL_17 (c_Mwrite_y E 18 m mP mW mR mB mS mA mK mE mT mD nP nW nR nB mN mO mQ mX np nr sz sz2 ns len mat rp rr dp tx2 y1 hl hn) rfl rfl rfl rfl (by omega) (by decide) (Nat.le_of_ble_eq_true rfl) (Nat.le_of_ble_eq_true rfl) dL_law_171) hmw (perm_idx [0, 9, 1, 2, 3, 4, 5, 6, 7, 8, 10, 11, 12, 13, 14, 15, 16, 17, 18] 19 rfl rfl rfl) (fun v2 w2 hp2 => ?_)
      obtain ⟨rfl, rfl⟩ := hp2
      refine RR.eq (st2 := [Value.int _, Value.int _]) rfl rfl rfl rfl ?_
      refine rr_eqT 797 dL_law_174 (by decide) rfl ?_
      refine K _ (INV_mk E x m (len + 1) (updI tx len y1) np kd lf qt wd nr rx ry sh h sz g sz2 g2 ns sp sc sv (updI tx2 len y1) pg wn ro bg st was kp sn (len_add hlen hn hl) hp hr hsh hs4 hs6 hnp ho hv hsz hg hsz2 hg2 hso (AG_add etx) epl ero ebg est ewa ekp esn ?_ ?_)
      · exact ⟨s, p, z, a, b, c, f, k, q, o, sg, nm, at_, t, pK, pL, pQ, pW, pX, pY, pS, zK, zL, zQ, zW, zX, zY, zS, np0, nr0, kd0, lf0, qt0, wd0, rx0, ry0, sh0, g0, g00, ar, ar2, u, u2, qp, qc, qv, fl, ln, mt, fr, Q, f0, lin, mts, hnm, h04, h06, perm_idx [0, 1, 2, 3, 4, 5, 6, 7, 8, 9, 10, 11, 12, 13, 14, 15, 16, 17, 18, 19, 20, 21, 22, 23, 24, 25, 26, 27, 28, 29, 30, 31, 32, 33, 34, 35, 36, 37, 38, 39, 40, 41, 42, 43, 44] 45 rfl rfl rfl⟩
      · exact ⟨mP, mW, mR, mB, mS, mA, mK, mE, mT, mD, nP, nW, nR, nB, mN, mO, mQ, mX, mat, mtd, rp, rr, rpg, rwn, rro, rbg, nw, rw, rs, dp, ot, hnmM, perm_idx [0, 2, 3, 4, 5, 6, 7, 8, 9, 1, 10, 11, 12, 13, 14, 15, 16, 17, 18] 19 rfl rfl rfl⟩
    · skip
      have hn2 : len = 200 := by have := hlen.1; omega
      refine rr_aload_n 1 dL_law_156 rfl ?_
      refine rr_aload_n 0 dL_law_157 rfl ?_
      refine rr_iload_n 3 dL_law_158 rfl ?_
      refine rr_iconst dL_law_159 ?_
      refine rr_iadd dL_law_160 ?_
      refine rr_sldZ (y := y1) (i + 1) (by omega) (by omega) (by omega) ey1 dL_law_161 ?_
      refine rr_callF (wr := [(nm, aI E 4 t), (p, ob 2 [.ref pK, .ref pL, .ref pQ, .ref pW, .ref pX, .ref pY, .ref pS, .int (zz ↑np), .int (zz ↑nr)]), (pK, aI E 7 kd), (pL, aI E 7 lf), (pQ, aI E 7 qt), (pW, aI E 10 wd), (pX, aI E 6 rx), (pY, aI E 6 ry), (pS, hO sh), (z, ob 2 [.ref zK, .ref zL, .ref zQ, .ref zW, .ref zX, .ref zY, .ref zS, .int (zz ↑np0), .int (zz ↑nr0)]), (zK, aI E 7 kd0), (zL, aI E 7 lf0), (zQ, aI E 7 qt0), (zW, aI E 10 wd0), (zX, aI E 6 rx0), (zY, aI E 6 ry0), (zS, hO sh0), (a, hO h), (b, hO g0), (c, hO g00), (f, ob 4 [.ref ar, .int (zz ↑sz)]), (ar, aH E 8 (fun i => some (u i))), ((u 0), hO (g 0)), ((u 1), hO (g 1)), ((u 2), hO (g 2)), ((u 3), hO (g 3)), ((u 4), hO (g 4)), ((u 5), hO (g 5)), ((u 6), hO (g 6)), ((u 7), hO (g 7)), (k, ob 4 [.ref ar2, .int (zz ↑sz2)]), (ar2, aH E 2 (fun i => some (u2 i))), ((u2 0), hO (g2 0)), ((u2 1), hO (g2 1)), (q, ob 5 [.ref qp, .ref qc, .ref qv, .int (zz ↑ns)]), (qp, aI E 6 sp), (qc, aI E 6 sc), (qv, aI E 6 sv), (o, ob 1 [.ref p, .ref fl, .ref ln, .ref mt, .int (zz ↑fr), .int (zz (↑(Q.length)))]), (fl, hO f0), (ln, aI E 8000 lin), (mt, aI E 250 mts)]) (call_V (q0 := 0) kL_13 (c_write_full E 18 x s p z a b c f k q o sg nm len tx at_ y1 hl hn2) rfl rfl rfl rfl (by omega) (by decide) (Nat.le_of_ble_eq_true rfl) (Nat.le_of_ble_eq_true rfl) dL_law_162) hcw (perm_idx [0, 1, 2, 3, 4, 5, 6, 7, 8, 9, 10, 11, 12, 13, 14, 15, 16, 17, 18, 19, 20, 21, 22, 23, 24, 25, 26, 27, 28, 29, 30, 31, 32, 33, 34, 35, 36, 37, 38, 39, 40, 41, 42, 43, 44] 45 rfl rfl rfl) (fun v w1 hp1 => ?_)
      obtain ⟨rfl, rfl⟩ := hp1
      refine rr_aload_n 2 dL_law_165 rfl ?_
      refine rr_aload_n 0 dL_law_166 rfl ?_
      refine rr_iload_n 3 dL_law_167 rfl ?_
      refine rr_iconst dL_law_168 ?_
      refine rr_iadd dL_law_169 ?_
      refine rr_sldZ (y := y1) (i + 1) (by omega) (by omega) (by omega) ey1 dL_law_170 ?_
      refine rr_callG (wr := [(mP, aI E 21 pg), (mW, aI E 10 wn), (mR, aI E 12 ro), (mB, aI E 7 bg), (mS, aI E 7 st), (mA, aI E 56 was), (mK, aI E 14 kp), (mE, aI E 18 sn), (mT, aI E 200 tx2), (mD, aI E 4 mtd), (nP, aI E 21 rpg), (nW, aI E 10 rwn), (nR, aI E 12 rro), (nB, aI E 7 rbg), (mN, aI E 7 nw), (mO, aI E 7 rw), (mQ, aI E 49 rs), (mX, aI E 7 ot)]) (call_V (q0 := 0) kL_17 (c_Mwrite_full E 18 m mP mW mR mB mS mA mK mE mT mD nP nW nR nB mN mO mQ mX np nr sz sz2 ns len mat rp rr dp y1 hl hn2) rfl rfl rfl rfl (by omega) (by decide) (Nat.le_of_ble_eq_true rfl) (Nat.le_of_ble_eq_true rfl) dL_law_171) hmw (perm_idx [0, 1, 2, 3, 4, 5, 6, 7, 8, 9, 10, 11, 12, 13, 14, 15, 16, 17, 18] 19 rfl rfl rfl) (fun v2 w2 hp2 => ?_)
      obtain ⟨rfl, rfl⟩ := hp2
      refine RR.eq (st2 := [Value.int _, Value.int _]) rfl rfl rfl rfl ?_
      refine rr_eqT 797 dL_law_174 (by decide) rfl ?_
      refine K _ (INV_mk E x m len tx np kd lf qt wd nr rx ry sh h sz g sz2 g2 ns sp sc sv tx2 pg wn ro bg st was kp sn hlen hp hr hsh hs4 hs6 hnp ho hv hsz hg hsz2 hg2 hso etx epl ero ebg est ewa ekp esn ?_ ?_)
      · exact ⟨s, p, z, a, b, c, f, k, q, o, sg, nm, at_, t, pK, pL, pQ, pW, pX, pY, pS, zK, zL, zQ, zW, zX, zY, zS, np0, nr0, kd0, lf0, qt0, wd0, rx0, ry0, sh0, g0, g00, ar, ar2, u, u2, qp, qc, qv, fl, ln, mt, fr, Q, f0, lin, mts, hnm, h04, h06, perm_idx [0, 1, 2, 3, 4, 5, 6, 7, 8, 9, 10, 11, 12, 13, 14, 15, 16, 17, 18, 19, 20, 21, 22, 23, 24, 25, 26, 27, 28, 29, 30, 31, 32, 33, 34, 35, 36, 37, 38, 39, 40, 41, 42, 43, 44] 45 rfl rfl rfl⟩
      · exact ⟨mP, mW, mR, mB, mS, mA, mK, mE, mT, mD, nP, nW, nR, nB, mN, mO, mQ, mX, mat, mtd, rp, rr, rpg, rwn, rro, rbg, nw, rw, rs, dp, ot, hnmM, perm_idx [0, 1, 2, 3, 4, 5, 6, 7, 8, 9, 10, 11, 12, 13, 14, 15, 16, 17, 18] 19 rfl rfl rfl⟩
  · skip
    refine rr_aload_n 1 dL_law_156 rfl ?_
    refine rr_aload_n 0 dL_law_157 rfl ?_
    refine rr_iload_n 3 dL_law_158 rfl ?_
    refine rr_iconst dL_law_159 ?_
    refine rr_iadd dL_law_160 ?_
    refine rr_sldZ (y := y1) (i + 1) (by omega) (by omega) (by omega) ey1 dL_law_161 ?_
    refine rr_callF (wr := [(nm, aI E 4 t), (p, ob 2 [.ref pK, .ref pL, .ref pQ, .ref pW, .ref pX, .ref pY, .ref pS, .int (zz ↑np), .int (zz ↑nr)]), (pK, aI E 7 kd), (pL, aI E 7 lf), (pQ, aI E 7 qt), (pW, aI E 10 wd), (pX, aI E 6 rx), (pY, aI E 6 ry), (pS, hO sh), (z, ob 2 [.ref zK, .ref zL, .ref zQ, .ref zW, .ref zX, .ref zY, .ref zS, .int (zz ↑np0), .int (zz ↑nr0)]), (zK, aI E 7 kd0), (zL, aI E 7 lf0), (zQ, aI E 7 qt0), (zW, aI E 10 wd0), (zX, aI E 6 rx0), (zY, aI E 6 ry0), (zS, hO sh0), (a, hO h), (b, hO g0), (c, hO g00), (f, ob 4 [.ref ar, .int (zz ↑sz)]), (ar, aH E 8 (fun i => some (u i))), ((u 0), hO (g 0)), ((u 1), hO (g 1)), ((u 2), hO (g 2)), ((u 3), hO (g 3)), ((u 4), hO (g 4)), ((u 5), hO (g 5)), ((u 6), hO (g 6)), ((u 7), hO (g 7)), (k, ob 4 [.ref ar2, .int (zz ↑sz2)]), (ar2, aH E 2 (fun i => some (u2 i))), ((u2 0), hO (g2 0)), ((u2 1), hO (g2 1)), (q, ob 5 [.ref qp, .ref qc, .ref qv, .int (zz ↑ns)]), (qp, aI E 6 sp), (qc, aI E 6 sc), (qv, aI E 6 sv), (o, ob 1 [.ref p, .ref fl, .ref ln, .ref mt, .int (zz ↑fr), .int (zz (↑(Q.length)))]), (fl, hO f0), (ln, aI E 8000 lin), (mt, aI E 250 mts)]) (call_V (q0 := 0) kL_13 (c_write_bad E 18 x s p z a b c f k q o sg nm len tx at_ y1 g1 hl) rfl rfl rfl rfl (by omega) (by decide) (Nat.le_of_ble_eq_true rfl) (Nat.le_of_ble_eq_true rfl) dL_law_162) hcw (perm_idx [0, 1, 2, 3, 4, 5, 6, 7, 8, 9, 10, 11, 12, 13, 14, 15, 16, 17, 18, 19, 20, 21, 22, 23, 24, 25, 26, 27, 28, 29, 30, 31, 32, 33, 34, 35, 36, 37, 38, 39, 40, 41, 42, 43, 44] 45 rfl rfl rfl) (fun v w1 hp1 => ?_)
    obtain ⟨rfl, rfl⟩ := hp1
    refine rr_aload_n 2 dL_law_165 rfl ?_
    refine rr_aload_n 0 dL_law_166 rfl ?_
    refine rr_iload_n 3 dL_law_167 rfl ?_
    refine rr_iconst dL_law_168 ?_
    refine rr_iadd dL_law_169 ?_
    refine rr_sldZ (y := y1) (i + 1) (by omega) (by omega) (by omega) ey1 dL_law_170 ?_
    refine rr_callG (wr := [(mP, aI E 21 pg), (mW, aI E 10 wn), (mR, aI E 12 ro), (mB, aI E 7 bg), (mS, aI E 7 st), (mA, aI E 56 was), (mK, aI E 14 kp), (mE, aI E 18 sn), (mT, aI E 200 tx2), (mD, aI E 4 mtd), (nP, aI E 21 rpg), (nW, aI E 10 rwn), (nR, aI E 12 rro), (nB, aI E 7 rbg), (mN, aI E 7 nw), (mO, aI E 7 rw), (mQ, aI E 49 rs), (mX, aI E 7 ot)]) (call_V (q0 := 0) kL_17 (c_Mwrite_bad E 18 m mP mW mR mB mS mA mK mE mT mD nP nW nR nB mN mO mQ mX np nr sz sz2 ns len mat rp rr dp y1 g1 hl) rfl rfl rfl rfl (by omega) (by decide) (Nat.le_of_ble_eq_true rfl) (Nat.le_of_ble_eq_true rfl) dL_law_171) hmw (perm_idx [0, 1, 2, 3, 4, 5, 6, 7, 8, 9, 10, 11, 12, 13, 14, 15, 16, 17, 18] 19 rfl rfl rfl) (fun v2 w2 hp2 => ?_)
    obtain ⟨rfl, rfl⟩ := hp2
    refine RR.eq (st2 := [Value.int _, Value.int _]) rfl rfl rfl rfl ?_
    refine rr_eqT 797 dL_law_174 (by decide) rfl ?_
    refine K _ (INV_mk E x m len tx np kd lf qt wd nr rx ry sh h sz g sz2 g2 ns sp sc sv tx2 pg wn ro bg st was kp sn hlen hp hr hsh hs4 hs6 hnp ho hv hsz hg hsz2 hg2 hso etx epl ero ebg est ewa ekp esn ?_ ?_)
    · exact ⟨s, p, z, a, b, c, f, k, q, o, sg, nm, at_, t, pK, pL, pQ, pW, pX, pY, pS, zK, zL, zQ, zW, zX, zY, zS, np0, nr0, kd0, lf0, qt0, wd0, rx0, ry0, sh0, g0, g00, ar, ar2, u, u2, qp, qc, qv, fl, ln, mt, fr, Q, f0, lin, mts, hnm, h04, h06, perm_idx [0, 1, 2, 3, 4, 5, 6, 7, 8, 9, 10, 11, 12, 13, 14, 15, 16, 17, 18, 19, 20, 21, 22, 23, 24, 25, 26, 27, 28, 29, 30, 31, 32, 33, 34, 35, 36, 37, 38, 39, 40, 41, 42, 43, 44] 45 rfl rfl rfl⟩
    · exact ⟨mP, mW, mR, mB, mS, mA, mK, mE, mT, mD, nP, nW, nR, nB, mN, mO, mQ, mX, mat, mtd, rp, rr, rpg, rwn, rro, rbg, nw, rw, rs, dp, ot, hnmM, perm_idx [0, 1, 2, 3, 4, 5, 6, 7, 8, 9, 10, 11, 12, 13, 14, 15, 16, 17, 18] 19 rfl rfl rfl⟩
set_option maxRecDepth 100000 in
set_option maxHeartbeats 1000000 in
theorem lw_wipe {E : Ev} {x m i kc ks : Nat} {ws : va_W} {post : Option Value → va_W → Prop} (hL : eL E ≤ 256) (hi : i + 4 ≤ eL E) (hJ : INV E x m ws) (K : ∀ ws2 : va_W, INV E x m ws2 → RR E mL_law 20 kc ks 797 [(0, .ref (eB E)), (1, .ref x), (2, .ref m), (3, .int (zz (i : Int)))] [] ws2 post) : RR E mL_law 20 kc ks 179 [(0, .ref (eB E)), (1, .ref x), (2, .ref m), (3, .int (zz (i : Int)))] [] ws post := by
  obtain ⟨len, tx, np, kd, lf, qt, wd, nr, rx, ry, sh, h, sz, g, sz2, g2, ns, sp, sc, sv, tx2, pg, wn, ro, bg, st, was, kp, sn, cw, mw, hlen, hp, hr, hsh, hs4, hs6, hnp, ho, hv, hsz, hg, hsz2, hg2, hso, etx, epl, ero, ebg, est, ewa, ekp, esn, hC, hM, rfl⟩ := hJ
  obtain ⟨s, p, z, a, b, c, f, k, q, o, sg, nm, at_, t, pK, pL, pQ, pW, pX, pY, pS, zK, zL, zQ, zW, zX, zY, zS, np0, nr0, kd0, lf0, qt0, wd0, rx0, ry0, sh0, g0, g00, ar, ar2, u, u2, qp, qc, qv, fl, ln, mt, fr, Q, f0, lin, mts, hnm, h04, h06, hcw⟩ := hC
  obtain ⟨mP, mW, mR, mB, mS, mA, mK, mE, mT, mD, nP, nW, nR, nB, mN, mO, mQ, mX, mat, mtd, rp, rr, rpg, rwn, rro, rbg, nw, rw, rs, dp, ot, hnmM, hmw⟩ := hM
  refine rr_aload_n 1 dL_law_179 rfl ?_
  refine rr_callF (wr := [(sg, aC E 200 tx), (nm, aI E 4 t), (p, ob 2 [.ref pK, .ref pL, .ref pQ, .ref pW, .ref pX, .ref pY, .ref pS, .int (zz ↑np), .int (zz ↑nr)]), (pK, aI E 7 kd), (pL, aI E 7 lf), (pQ, aI E 7 qt), (pW, aI E 10 wd), (pX, aI E 6 rx), (pY, aI E 6 ry), (pS, hO sh), (z, ob 2 [.ref zK, .ref zL, .ref zQ, .ref zW, .ref zX, .ref zY, .ref zS, .int (zz ↑np0), .int (zz ↑nr0)]), (zK, aI E 7 kd0), (zL, aI E 7 lf0), (zQ, aI E 7 qt0), (zW, aI E 10 wd0), (zX, aI E 6 rx0), (zY, aI E 6 ry0), (zS, hO sh0), (a, hO h), (b, hO g0), (c, hO g00), (f, ob 4 [.ref ar, .int (zz ↑sz)]), (ar, aH E 8 (fun i => some (u i))), ((u 0), hO (g 0)), ((u 1), hO (g 1)), ((u 2), hO (g 2)), ((u 3), hO (g 3)), ((u 4), hO (g 4)), ((u 5), hO (g 5)), ((u 6), hO (g 6)), ((u 7), hO (g 7)), (k, ob 4 [.ref ar2, .int (zz ↑sz2)]), (ar2, aH E 2 (fun i => some (u2 i))), ((u2 0), hO (g2 0)), ((u2 1), hO (g2 1)), (q, ob 5 [.ref qp, .ref qc, .ref qv, .int (zz ↑ns)]), (qp, aI E 6 sp), (qc, aI E 6 sc), (qv, aI E 6 sv), (o, ob 1 [.ref p, .ref fl, .ref ln, .ref mt, .int (zz ↑fr), .int (zz (↑(Q.length)))]), (fl, hO f0), (ln, aI E 8000 lin), (mt, aI E 250 mts)]) (call_V (q0 := 0) kL_18 (c_wipe E 19 x s p z a b c f k q o sg nm len tx at_) rfl rfl rfl rfl (by omega) (by decide) (Nat.le_of_ble_eq_true rfl) (Nat.le_of_ble_eq_true rfl) dL_law_180) hcw (perm_idx [0, 1, 2, 3, 4, 5, 6, 7, 8, 9, 10, 11, 12, 13, 14, 15, 16, 17, 18, 19, 20, 21, 22, 23, 24, 25, 26, 27, 28, 29, 30, 31, 32, 33, 34, 35, 36, 37, 38, 39, 40, 41, 42, 43, 44] 45 rfl rfl rfl) (fun v w1 hp1 => ?_)
  obtain ⟨rfl, rfl⟩ := hp1
  refine rr_aload_n 2 dL_law_183 rfl ?_
  refine rr_callG (wr := [(mP, aI E 21 pg), (mW, aI E 10 wn), (mR, aI E 12 ro), (mB, aI E 7 bg), (mS, aI E 7 st), (mA, aI E 56 was), (mK, aI E 14 kp), (mE, aI E 18 sn), (mT, aI E 200 tx2), (mD, aI E 4 mtd), (nP, aI E 21 rpg), (nW, aI E 10 rwn), (nR, aI E 12 rro), (nB, aI E 7 rbg), (mN, aI E 7 nw), (mO, aI E 7 rw), (mQ, aI E 49 rs), (mX, aI E 7 ot)]) (call_V (q0 := 0) kL_22 (c_Mwipe E 19 m mP mW mR mB mS mA mK mE mT mD nP nW nR nB mN mO mQ mX np nr sz sz2 ns len mat rp rr dp) rfl rfl rfl rfl (by omega) (by decide) (Nat.le_of_ble_eq_true rfl) (Nat.le_of_ble_eq_true rfl) dL_law_184) hmw (perm_idx [0, 1, 2, 3, 4, 5, 6, 7, 8, 9, 10, 11, 12, 13, 14, 15, 16, 17, 18] 19 rfl rfl rfl) (fun v2 w2 hp2 => ?_)
  obtain ⟨rfl, rfl⟩ := hp2
  refine RR.eq (st2 := [Value.int _, Value.int _]) rfl rfl rfl rfl ?_
  refine rr_eqT 797 dL_law_187 (by decide) rfl ?_
  refine K _ (INV_mk E x m 0 tx np kd lf qt wd nr rx ry sh h sz g sz2 g2 ns sp sc sv tx2 pg wn ro bg st was kp sn (⟨Nat.zero_le _, fun j hj => absurd hj (Nat.not_lt_zero j)⟩) hp hr hsh hs4 hs6 hnp ho hv hsz hg hsz2 hg2 hso (fun j hj => absurd hj (Nat.not_lt_zero j)) epl ero ebg est ewa ekp esn ?_ ?_)
  · exact ⟨s, p, z, a, b, c, f, k, q, o, sg, nm, at_, t, pK, pL, pQ, pW, pX, pY, pS, zK, zL, zQ, zW, zX, zY, zS, np0, nr0, kd0, lf0, qt0, wd0, rx0, ry0, sh0, g0, g00, ar, ar2, u, u2, qp, qc, qv, fl, ln, mt, fr, Q, f0, lin, mts, hnm, h04, h06, perm_idx [0, 1, 2, 3, 4, 5, 6, 7, 8, 9, 10, 11, 12, 13, 14, 15, 16, 17, 18, 19, 20, 21, 22, 23, 24, 25, 26, 27, 28, 29, 30, 31, 32, 33, 34, 35, 36, 37, 38, 39, 40, 41, 42, 43, 44] 45 rfl rfl rfl⟩
  · exact ⟨mP, mW, mR, mB, mS, mA, mK, mE, mT, mD, nP, nW, nR, nB, mN, mO, mQ, mX, mat, mtd, rp, rr, rpg, rwn, rro, rbg, nw, rw, rs, dp, ot, hnmM, perm_idx [0, 1, 2, 3, 4, 5, 6, 7, 8, 9, 10, 11, 12, 13, 14, 15, 16, 17, 18] 19 rfl rfl rfl⟩
set_option maxRecDepth 100000 in
set_option maxHeartbeats 1000000 in
theorem lw_fault {E : Ev} {x m i kc ks : Nat} {ws : va_W} {post : Option Value → va_W → Prop} (hL : eL E ≤ 256) (hi : i + 4 ≤ eL E) (hJ : INV E x m ws) (K : ∀ ws2 : va_W, INV E x m ws2 → RR E mL_law 20 kc ks 797 [(0, .ref (eB E)), (1, .ref x), (2, .ref m), (3, .int (zz (i : Int)))] [] ws2 post) : RR E mL_law 20 kc ks 192 [(0, .ref (eB E)), (1, .ref x), (2, .ref m), (3, .int (zz (i : Int)))] [] ws post := by
  obtain ⟨len, tx, np, kd, lf, qt, wd, nr, rx, ry, sh, h, sz, g, sz2, g2, ns, sp, sc, sv, tx2, pg, wn, ro, bg, st, was, kp, sn, cw, mw, hlen, hp, hr, hsh, hs4, hs6, hnp, ho, hv, hsz, hg, hsz2, hg2, hso, etx, epl, ero, ebg, est, ewa, ekp, esn, hC, hM, rfl⟩ := hJ
  obtain ⟨s, p, z, a, b, c, f, k, q, o, sg, nm, at_, t, pK, pL, pQ, pW, pX, pY, pS, zK, zL, zQ, zW, zX, zY, zS, np0, nr0, kd0, lf0, qt0, wd0, rx0, ry0, sh0, g0, g00, ar, ar2, u, u2, qp, qc, qv, fl, ln, mt, fr, Q, f0, lin, mts, hnm, h04, h06, hcw⟩ := hC
  obtain ⟨mP, mW, mR, mB, mS, mA, mK, mE, mT, mD, nP, nW, nR, nB, mN, mO, mQ, mX, mat, mtd, rp, rr, rpg, rwn, rro, rbg, nw, rw, rs, dp, ot, hnmM, hmw⟩ := hM
  have htx := tx_ok hlen
  have htx2 := tx_ok2 hlen etx
  obtain ⟨e1, eG, eM⟩ := fa_rel (sg_AG etx) t mtd (P := (np0, kd0, lf0, qt0, wd0, nr0, rx0, ry0, sh0)) (rp, rpg, rwn, rr, rro, rbg) h04 h06
  refine rr_aload_n 1 dL_law_192 rfl ?_
  refine rr_callF (wr := [(p, ob 2 [.ref pK, .ref pL, .ref pQ, .ref pW, .ref pX, .ref pY, .ref pS, .int (zz ↑np), .int (zz ↑nr)]), (pK, aI E 7 kd), (pL, aI E 7 lf), (pQ, aI E 7 qt), (pW, aI E 10 wd), (pX, aI E 6 rx), (pY, aI E 6 ry), (pS, hO sh), (a, hO h), (b, hO g0), (c, hO g00), (f, ob 4 [.ref ar, .int (zz ↑sz)]), (ar, aH E 8 (fun i => some (u i))), ((u 0), hO (g 0)), ((u 1), hO (g 1)), ((u 2), hO (g 2)), ((u 3), hO (g 3)), ((u 4), hO (g 4)), ((u 5), hO (g 5)), ((u 6), hO (g 6)), ((u 7), hO (g 7)), (k, ob 4 [.ref ar2, .int (zz ↑sz2)]), (ar2, aH E 2 (fun i => some (u2 i))), ((u2 0), hO (g2 0)), ((u2 1), hO (g2 1)), (q, ob 5 [.ref qp, .ref qc, .ref qv, .int (zz ↑ns)]), (qp, aI E 6 sp), (qc, aI E 6 sc), (qv, aI E 6 sv), (o, ob 1 [.ref p, .ref fl, .ref ln, .ref mt, .int (zz ↑fr), .int (zz (↑(Q.length)))]), (fl, hO f0), (ln, aI E 8000 lin), (mt, aI E 250 mts)]) (call_V (q0 := 0) kL_23 (c_fault E 14 x s p z a b c f k q o sg nm len tx at_ t htx hnm zK zL zQ zW zX zY zS np0 nr0 kd0 lf0 qt0 wd0 rx0 ry0 sh0) rfl rfl rfl rfl (by omega) (by decide) (Nat.le_of_ble_eq_true rfl) (Nat.le_of_ble_eq_true rfl) dL_law_193) hcw (perm_idx [0, 1, 2, 3, 12, 13, 14, 15, 16, 17, 18, 19, 4, 5, 6, 7, 8, 9, 10, 11, 20, 21, 22, 23, 24, 25, 26, 27, 28, 29, 30, 31, 32, 33, 34, 35, 36, 37, 38, 39, 40, 41, 42, 43, 44] 45 rfl rfl rfl) (fun v w1 hp1 => ?_)
  obtain ⟨rfl, a1, t1, hn1, rfl⟩ := hp1
  refine rr_aload_n 2 dL_law_196 rfl ?_
  refine rr_callG (wr := [(mP, aI E 21 pg), (mW, aI E 10 wn), (mR, aI E 12 ro), (mB, aI E 7 bg), (mS, aI E 7 st), (mA, aI E 56 was), (mK, aI E 14 kp), (mE, aI E 18 sn), (mN, aI E 7 nw), (mO, aI E 7 rw), (mQ, aI E 49 rs), (mX, aI E 7 ot)]) (call_V (q0 := 0) kL_26 (c_Mfault E 14 m mP mW mR mB mS mA mK mE mT mD nP nW nR nB mN mO mQ mX np nr sz sz2 ns len mat rp rr dp tx2 mtd rpg rwn rro rbg htx2 hnmM) rfl rfl rfl rfl (by omega) (by decide) (Nat.le_of_ble_eq_true rfl) (Nat.le_of_ble_eq_true rfl) dL_law_197) hmw (perm_idx [0, 9, 10, 11, 12, 13, 14, 1, 2, 3, 4, 5, 6, 7, 8, 15, 16, 17, 18] 19 rfl rfl rfl) (fun v2 w2 hp2 => ?_)
  obtain ⟨rfl, a2, t2, hn2, rfl⟩ := hp2
  refine RR.eq (st2 := [Value.int _, Value.int _]) rfl rfl rfl rfl ?_
  refine rr_eqT 797 dL_law_200 (by decide) (congrArg zz e1) ?_
  refine K _ (INV_mk E x m len tx np kd lf qt wd nr rx ry sh h sz g sz2 g2 ns sp sc sv tx2 pg wn ro bg st was kp sn hlen hp hr hsh hs4 hs6 hnp ho hv hsz hg hsz2 hg2 hso etx epl ero ebg est ewa ekp esn ?_ ?_)
  · exact ⟨s, p, z, a, b, c, f, k, q, o, sg, nm, a1, t1, pK, pL, pQ, pW, pX, pY, pS, zK, zL, zQ, zW, zX, zY, zS, ((psF tx len 200 0 t (clrF (np0, kd0, lf0, qt0, wd0, nr0, rx0, ry0, sh0))).2.1), ((psF tx len 200 0 t (clrF (np0, kd0, lf0, qt0, wd0, nr0, rx0, ry0, sh0))).2.2.2.2.2.2.1), (psF tx len 200 0 t (clrF (np0, kd0, lf0, qt0, wd0, nr0, rx0, ry0, sh0))).2.2.1, (psF tx len 200 0 t (clrF (np0, kd0, lf0, qt0, wd0, nr0, rx0, ry0, sh0))).2.2.2.1, (psF tx len 200 0 t (clrF (np0, kd0, lf0, qt0, wd0, nr0, rx0, ry0, sh0))).2.2.2.2.1, (psF tx len 200 0 t (clrF (np0, kd0, lf0, qt0, wd0, nr0, rx0, ry0, sh0))).2.2.2.2.2.1, (psF tx len 200 0 t (clrF (np0, kd0, lf0, qt0, wd0, nr0, rx0, ry0, sh0))).2.2.2.2.2.2.2.1, (psF tx len 200 0 t (clrF (np0, kd0, lf0, qt0, wd0, nr0, rx0, ry0, sh0))).2.2.2.2.2.2.2.2.1, (psF tx len 200 0 t (clrF (np0, kd0, lf0, qt0, wd0, nr0, rx0, ry0, sh0))).2.2.2.2.2.2.2.2.2, g0, g00, ar, ar2, u, u2, qp, qc, qv, fl, ln, mt, fr, Q, f0, lin, mts, hn1, eG.2.2.2.1, eG.2.2.2.2, perm_idx [0, 1, 2, 3, 12, 13, 14, 15, 16, 17, 18, 19, 4, 5, 6, 7, 8, 9, 10, 11, 20, 21, 22, 23, 24, 25, 26, 27, 28, 29, 30, 31, 32, 33, 34, 35, 36, 37, 38, 39, 40, 41, 42, 43, 44] 45 rfl rfl rfl⟩
  · exact ⟨mP, mW, mR, mB, mS, mA, mK, mE, mT, mD, nP, nW, nR, nB, mN, mO, mQ, mX, a2, t2, ((psM tx2 len 200 0 mtd (clrM (rp, rpg, rwn, rr, rro, rbg))).2.1), ((psM tx2 len 200 0 mtd (clrM (rp, rpg, rwn, rr, rro, rbg))).2.2.2.2.1), (psM tx2 len 200 0 mtd (clrM (rp, rpg, rwn, rr, rro, rbg))).2.2.1, (psM tx2 len 200 0 mtd (clrM (rp, rpg, rwn, rr, rro, rbg))).2.2.2.1, (psM tx2 len 200 0 mtd (clrM (rp, rpg, rwn, rr, rro, rbg))).2.2.2.2.2.1, (psM tx2 len 200 0 mtd (clrM (rp, rpg, rwn, rr, rro, rbg))).2.2.2.2.2.2, nw, rw, rs, dp, ot, hn2, perm_idx [0, 7, 8, 9, 10, 11, 12, 13, 14, 1, 2, 3, 4, 5, 6, 15, 16, 17, 18] 19 rfl rfl rfl⟩
set_option maxRecDepth 100000 in
set_option maxHeartbeats 1000000 in
theorem lw_lay {E : Ev} {x m i kc ks : Nat} {ws : va_W} {post : Option Value → va_W → Prop} (hL : eL E ≤ 256) (hi : i + 4 ≤ eL E) (hJ : INV E x m ws) (K : ∀ ws2 : va_W, INV E x m ws2 → RR E mL_law 20 kc ks 797 [(0, .ref (eB E)), (1, .ref x), (2, .ref m), (3, .int (zz (i : Int)))] [] ws2 post) : RR E mL_law 20 kc ks 205 [(0, .ref (eB E)), (1, .ref x), (2, .ref m), (3, .int (zz (i : Int)))] [] ws post := by
  obtain ⟨len, tx, np, kd, lf, qt, wd, nr, rx, ry, sh, h, sz, g, sz2, g2, ns, sp, sc, sv, tx2, pg, wn, ro, bg, st, was, kp, sn, cw, mw, hlen, hp, hr, hsh, hs4, hs6, hnp, ho, hv, hsz, hg, hsz2, hg2, hso, etx, epl, ero, ebg, est, ewa, ekp, esn, hC, hM, rfl⟩ := hJ
  obtain ⟨s, p, z, a, b, c, f, k, q, o, sg, nm, at_, t, pK, pL, pQ, pW, pX, pY, pS, zK, zL, zQ, zW, zX, zY, zS, np0, nr0, kd0, lf0, qt0, wd0, rx0, ry0, sh0, g0, g00, ar, ar2, u, u2, qp, qc, qv, fl, ln, mt, fr, Q, f0, lin, mts, hnm, h04, h06, hcw⟩ := hC
  obtain ⟨mP, mW, mR, mB, mS, mA, mK, mE, mT, mD, nP, nW, nR, nB, mN, mO, mQ, mX, mat, mtd, rp, rr, rpg, rwn, rro, rbg, nw, rw, rs, dp, ot, hnmM, hmw⟩ := hM
  have htx := tx_ok hlen
  have htx2 := tx_ok2 hlen etx
  obtain ⟨e1, eG, eM⟩ := fa_rel (sg_AG etx) t mtd (P := (np0, kd0, lf0, qt0, wd0, nr0, rx0, ry0, sh0)) (rp, rpg, rwn, rr, rro, rbg) h04 h06
  have hfr := fun t1 => fa_rel (sg_AG etx) t1 mtd (P := (np, kd, lf, qt, wd, nr, rx, ry, sh)) (rp, rpg, rwn, rr, rro, rbg) hs4 hs6
  obtain ⟨RM, hRM⟩ : ∃ R, (psM tx2 len 200 0 mtd (clrM (rp, rpg, rwn, rr, rro, rbg))) = R := ⟨_, rfl⟩
  rw [hRM] at e1 eM
  simp only [hRM] at hfr
  by_cases hc : (psF tx len 200 0 t (clrF (np0, kd0, lf0, qt0, wd0, nr0, rx0, ry0, sh0))).1 = -4 ∧ 1 ≤ (psF tx len 200 0 t (clrF (np0, kd0, lf0, qt0, wd0, nr0, rx0, ry0, sh0))).2.1
  · skip
    refine rr_aload_n 1 dL_law_205 rfl ?_
    refine rr_callF (wr := [(b, hO g0), (c, hO g00), (ar, aH E 8 (fun i => some (u i))), ((u 0), hO (g 0)), ((u 1), hO (g 1)), ((u 2), hO (g 2)), ((u 3), hO (g 3)), ((u 4), hO (g 4)), ((u 5), hO (g 5)), ((u 6), hO (g 6)), ((u 7), hO (g 7)), (ar2, aH E 2 (fun i => some (u2 i))), ((u2 0), hO (g2 0)), ((u2 1), hO (g2 1)), (qp, aI E 6 sp), (qc, aI E 6 sc), (qv, aI E 6 sv), (o, ob 1 [.ref p, .ref fl, .ref ln, .ref mt, .int (zz ↑fr), .int (zz (↑(Q.length)))]), (fl, hO f0), (ln, aI E 8000 lin), (mt, aI E 250 mts)]) (call_V (q0 := 0) kL_27 (c_lay_y E 14 x s p z a b c f k q o sg nm len tx at_ t htx hnm zK zL zQ zW zX zY zS np0 nr0 kd0 lf0 qt0 wd0 rx0 ry0 sh0 pK pL pQ pW pX pY pS np nr kd lf qt wd rx ry sh h ar ar2 sz sz2 qp qc qv ns (psF tx len 200 0 t (clrF (np0, kd0, lf0, qt0, wd0, nr0, rx0, ry0, sh0))) rfl hc) rfl rfl rfl rfl (by omega) (by decide) (Nat.le_of_ble_eq_true rfl) (Nat.le_of_ble_eq_true rfl) dL_law_206) hcw (perm_idx [0, 1, 2, 3, 12, 13, 14, 15, 16, 17, 18, 19, 4, 5, 6, 7, 8, 9, 10, 11, 20, 23, 33, 37, 21, 22, 24, 25, 26, 27, 28, 29, 30, 31, 32, 34, 35, 36, 38, 39, 40, 41, 42, 43, 44] 45 rfl rfl rfl) (fun v w1 hp1 => ?_)
    obtain ⟨a2, t1, t2, R1, hn1, hn2, hR1, rfl, hpm⟩ := hp1
    obtain ⟨f1, fG, fM⟩ := hfr t1
    rw [hR1] at f1 fG fM
    obtain ⟨q1, np2, kd2, lf2, qt2, wd2, nr2, rx2, ry2, sh2⟩ := R1
    refine rr_aload_n 2 dL_law_209 rfl ?_
    refine rr_callG (wr := [(mA, aI E 56 was), (mK, aI E 14 kp), (mE, aI E 18 sn), (mN, aI E 7 nw), (mO, aI E 7 rw), (mQ, aI E 49 rs), (mX, aI E 7 ot)]) (call_V (q0 := 0) kL_30 (c_Mlay_y E 13 m mP mW mR mB mS mA mK mE mT mD nP nW nR nB mN mO mQ mX np nr sz sz2 ns len mat rp rr dp pg wn ro bg st tx2 mtd rpg rwn rro rbg htx2 hnmM RM hRM (⟨e1.symm.trans hc.1, by rw [eM.1]; exact hc.2⟩)) rfl rfl rfl rfl (by omega) (by decide) (Nat.le_of_ble_eq_true rfl) (Nat.le_of_ble_eq_true rfl) dL_law_210) hmw (perm_idx [0, 9, 10, 11, 12, 13, 14, 1, 2, 3, 4, 5, 6, 7, 8, 15, 16, 17, 18] 19 rfl rfl rfl) (fun v2 w2 hp2 => ?_)
    obtain ⟨rfl, a3, t3, hn3, rfl⟩ := hp2
    obtain ⟨q2, np3, pg3, wn3, nr3, ro3, bg3⟩ := RM
    obtain ⟨m1, m2, m3, m4, m5⟩ := fM
    obtain ⟨n1, n2, n3, n4, n5⟩ := fG
    dsimp only at m1 m2 m3 m4 m5 n1 n2 n3 n4 n5
    subst m1
    subst m2
    have hn1_ : 1 ≤ np3 := by have h1 := hc.2; have h2 : np3 = (psF tx len 200 0 t (clrF (np0, kd0, lf0, qt0, wd0, nr0, rx0, ry0, sh0))).2.1 := eM.1; omega
    refine RR.eq (st2 := [Value.int _, Value.int _]) rfl rfl rfl rfl ?_
    refine rr_eqT 797 dL_law_213 (by decide) rfl ?_
    refine K _ (INV_mk E x m len tx np3 kd2 lf2 qt2 wd2 nr3 rx2 ry2 sh2 sh2 0 g 0 g2 0 sp sc sv tx2 (cpI pg 0 pg3 0 21) (cpI wn 0 wn3 0 10) (cpI ro 0 ro3 0 12) (cpI bg 0 bg3 0 7) (cpI st 0 (cpI bg 0 bg3 0 7) 0 7) was kp sn hlen n1 n2 n3 n4 n5 hn1_ n3 (Or.inl n5) (Nat.zero_le _) (fun j hj => absurd hj (Nat.not_lt_zero j)) (Nat.zero_le _) (fun j hj => absurd hj (Nat.not_lt_zero j)) (⟨Nat.zero_le _, fun j hj => absurd hj (Nat.not_lt_zero j)⟩) etx (PL_cp m3 n1.1) (RoL_cp m4 n2.1) (cp7 m5) (cp7 (cp7 m5)) (fun j hj => absurd hj (Nat.not_lt_zero j)) (fun j hj => absurd hj (Nat.not_lt_zero j)) (fun j hj => absurd hj (Nat.not_lt_zero j)) ?_ ?_)
    · exact ⟨s, p, z, a, b, c, f, k, q, o, sg, nm, a2, t2, pK, pL, pQ, pW, pX, pY, pS, zK, zL, zQ, zW, zX, zY, zS, ((psF tx len 200 0 t (clrF (np0, kd0, lf0, qt0, wd0, nr0, rx0, ry0, sh0))).2.1), ((psF tx len 200 0 t (clrF (np0, kd0, lf0, qt0, wd0, nr0, rx0, ry0, sh0))).2.2.2.2.2.2.1), (psF tx len 200 0 t (clrF (np0, kd0, lf0, qt0, wd0, nr0, rx0, ry0, sh0))).2.2.1, (psF tx len 200 0 t (clrF (np0, kd0, lf0, qt0, wd0, nr0, rx0, ry0, sh0))).2.2.2.1, (psF tx len 200 0 t (clrF (np0, kd0, lf0, qt0, wd0, nr0, rx0, ry0, sh0))).2.2.2.2.1, (psF tx len 200 0 t (clrF (np0, kd0, lf0, qt0, wd0, nr0, rx0, ry0, sh0))).2.2.2.2.2.1, (psF tx len 200 0 t (clrF (np0, kd0, lf0, qt0, wd0, nr0, rx0, ry0, sh0))).2.2.2.2.2.2.2.1, (psF tx len 200 0 t (clrF (np0, kd0, lf0, qt0, wd0, nr0, rx0, ry0, sh0))).2.2.2.2.2.2.2.2.1, (psF tx len 200 0 t (clrF (np0, kd0, lf0, qt0, wd0, nr0, rx0, ry0, sh0))).2.2.2.2.2.2.2.2.2, g0, g00, ar, ar2, u, u2, qp, qc, qv, fl, ln, mt, fr, Q, f0, lin, mts, hn2, eG.2.2.2.1, eG.2.2.2.2, (hpm.append_right _).trans (perm_idx [0, 5, 6, 7, 16, 17, 18, 19, 20, 21, 22, 23, 8, 9, 10, 11, 12, 13, 14, 15, 1, 24, 25, 2, 26, 27, 28, 29, 30, 31, 32, 33, 34, 3, 35, 36, 37, 4, 38, 39, 40, 41, 42, 43, 44] 45 rfl rfl rfl)⟩
    · exact ⟨mP, mW, mR, mB, mS, mA, mK, mE, mT, mD, nP, nW, nR, nB, mN, mO, mQ, mX, a3, t3, np3, nr3, pg3, wn3, ro3, bg3, nw, rw, rs, dp, ot, hn3, perm_idx [0, 7, 8, 9, 10, 11, 12, 13, 14, 1, 2, 3, 4, 5, 6, 15, 16, 17, 18] 19 rfl rfl rfl⟩
  · skip
    refine rr_aload_n 1 dL_law_205 rfl ?_
    refine rr_callF (wr := [(p, ob 2 [.ref pK, .ref pL, .ref pQ, .ref pW, .ref pX, .ref pY, .ref pS, .int (zz ↑np), .int (zz ↑nr)]), (pK, aI E 7 kd), (pL, aI E 7 lf), (pQ, aI E 7 qt), (pW, aI E 10 wd), (pX, aI E 6 rx), (pY, aI E 6 ry), (pS, hO sh), (a, hO h), (b, hO g0), (c, hO g00), (f, ob 4 [.ref ar, .int (zz ↑sz)]), (ar, aH E 8 (fun i => some (u i))), ((u 0), hO (g 0)), ((u 1), hO (g 1)), ((u 2), hO (g 2)), ((u 3), hO (g 3)), ((u 4), hO (g 4)), ((u 5), hO (g 5)), ((u 6), hO (g 6)), ((u 7), hO (g 7)), (k, ob 4 [.ref ar2, .int (zz ↑sz2)]), (ar2, aH E 2 (fun i => some (u2 i))), ((u2 0), hO (g2 0)), ((u2 1), hO (g2 1)), (q, ob 5 [.ref qp, .ref qc, .ref qv, .int (zz ↑ns)]), (qp, aI E 6 sp), (qc, aI E 6 sc), (qv, aI E 6 sv), (o, ob 1 [.ref p, .ref fl, .ref ln, .ref mt, .int (zz ↑fr), .int (zz (↑(Q.length)))]), (fl, hO f0), (ln, aI E 8000 lin), (mt, aI E 250 mts)]) (call_V (q0 := 0) kL_27 (c_lay_no E 14 x s p z a b c f k q o sg nm len tx at_ t htx hnm zK zL zQ zW zX zY zS np0 nr0 kd0 lf0 qt0 wd0 rx0 ry0 sh0 hc) rfl rfl rfl rfl (by omega) (by decide) (Nat.le_of_ble_eq_true rfl) (Nat.le_of_ble_eq_true rfl) dL_law_206) hcw (perm_idx [0, 1, 2, 3, 12, 13, 14, 15, 16, 17, 18, 19, 4, 5, 6, 7, 8, 9, 10, 11, 20, 21, 22, 23, 24, 25, 26, 27, 28, 29, 30, 31, 32, 33, 34, 35, 36, 37, 38, 39, 40, 41, 42, 43, 44] 45 rfl rfl rfl) (fun v w1 hp1 => ?_)
    obtain ⟨rfl, a1, t1, hn1, rfl⟩ := hp1
    refine rr_aload_n 2 dL_law_209 rfl ?_
    refine rr_callG (wr := [(mP, aI E 21 pg), (mW, aI E 10 wn), (mR, aI E 12 ro), (mB, aI E 7 bg), (mS, aI E 7 st), (mA, aI E 56 was), (mK, aI E 14 kp), (mE, aI E 18 sn), (mN, aI E 7 nw), (mO, aI E 7 rw), (mQ, aI E 49 rs), (mX, aI E 7 ot)]) (call_V (q0 := 0) kL_30 (c_Mlay_no E 13 m mP mW mR mB mS mA mK mE mT mD nP nW nR nB mN mO mQ mX np nr sz sz2 ns len mat rp rr dp tx2 mtd rpg rwn rro rbg htx2 hnmM RM hRM (fun z => hc ⟨e1.trans z.1, by rw [← eM.1]; exact z.2⟩)) rfl rfl rfl rfl (by omega) (by decide) (Nat.le_of_ble_eq_true rfl) (Nat.le_of_ble_eq_true rfl) dL_law_210) hmw (perm_idx [0, 9, 10, 11, 12, 13, 14, 1, 2, 3, 4, 5, 6, 7, 8, 15, 16, 17, 18] 19 rfl rfl rfl) (fun v2 w2 hp2 => ?_)
    obtain ⟨rfl, a2, t2, hn2, rfl⟩ := hp2
    refine RR.eq (st2 := [Value.int _, Value.int _]) rfl rfl rfl rfl ?_
    refine rr_eqT 797 dL_law_213 (by decide) rfl ?_
    refine K _ (INV_mk E x m len tx np kd lf qt wd nr rx ry sh h sz g sz2 g2 ns sp sc sv tx2 pg wn ro bg st was kp sn hlen hp hr hsh hs4 hs6 hnp ho hv hsz hg hsz2 hg2 hso etx epl ero ebg est ewa ekp esn ?_ ?_)
    · exact ⟨s, p, z, a, b, c, f, k, q, o, sg, nm, a1, t1, pK, pL, pQ, pW, pX, pY, pS, zK, zL, zQ, zW, zX, zY, zS, ((psF tx len 200 0 t (clrF (np0, kd0, lf0, qt0, wd0, nr0, rx0, ry0, sh0))).2.1), ((psF tx len 200 0 t (clrF (np0, kd0, lf0, qt0, wd0, nr0, rx0, ry0, sh0))).2.2.2.2.2.2.1), (psF tx len 200 0 t (clrF (np0, kd0, lf0, qt0, wd0, nr0, rx0, ry0, sh0))).2.2.1, (psF tx len 200 0 t (clrF (np0, kd0, lf0, qt0, wd0, nr0, rx0, ry0, sh0))).2.2.2.1, (psF tx len 200 0 t (clrF (np0, kd0, lf0, qt0, wd0, nr0, rx0, ry0, sh0))).2.2.2.2.1, (psF tx len 200 0 t (clrF (np0, kd0, lf0, qt0, wd0, nr0, rx0, ry0, sh0))).2.2.2.2.2.1, (psF tx len 200 0 t (clrF (np0, kd0, lf0, qt0, wd0, nr0, rx0, ry0, sh0))).2.2.2.2.2.2.2.1, (psF tx len 200 0 t (clrF (np0, kd0, lf0, qt0, wd0, nr0, rx0, ry0, sh0))).2.2.2.2.2.2.2.2.1, (psF tx len 200 0 t (clrF (np0, kd0, lf0, qt0, wd0, nr0, rx0, ry0, sh0))).2.2.2.2.2.2.2.2.2, g0, g00, ar, ar2, u, u2, qp, qc, qv, fl, ln, mt, fr, Q, f0, lin, mts, hn1, eG.2.2.2.1, eG.2.2.2.2, perm_idx [0, 1, 2, 3, 12, 13, 14, 15, 16, 17, 18, 19, 4, 5, 6, 7, 8, 9, 10, 11, 20, 21, 22, 23, 24, 25, 26, 27, 28, 29, 30, 31, 32, 33, 34, 35, 36, 37, 38, 39, 40, 41, 42, 43, 44] 45 rfl rfl rfl⟩
    · exact ⟨mP, mW, mR, mB, mS, mA, mK, mE, mT, mD, nP, nW, nR, nB, mN, mO, mQ, mX, a2, t2, (RM.2.1), (RM.2.2.2.2.1), RM.2.2.1, RM.2.2.2.1, RM.2.2.2.2.2.1, RM.2.2.2.2.2.2, nw, rw, rs, dp, ot, hn2, perm_idx [0, 7, 8, 9, 10, 11, 12, 13, 14, 1, 2, 3, 4, 5, 6, 15, 16, 17, 18] 19 rfl rfl rfl⟩
set_option maxRecDepth 100000 in
set_option maxHeartbeats 1000000 in
theorem lw_peg {E : Ev} {x m i kc ks : Nat} {ws : va_W} {post : Option Value → va_W → Prop} (hL : eL E ≤ 256) (hi : i + 4 ≤ eL E) (hJ : INV E x m ws) (K : ∀ ws2 : va_W, INV E x m ws2 → RR E mL_law 20 kc ks 797 [(0, .ref (eB E)), (1, .ref x), (2, .ref m), (3, .int (zz (i : Int)))] [] ws2 post) : RR E mL_law 20 kc ks 218 [(0, .ref (eB E)), (1, .ref x), (2, .ref m), (3, .int (zz (i : Int)))] [] ws post := by
  obtain ⟨len, tx, np, kd, lf, qt, wd, nr, rx, ry, sh, h, sz, g, sz2, g2, ns, sp, sc, sv, tx2, pg, wn, ro, bg, st, was, kp, sn, cw, mw, hlen, hp, hr, hsh, hs4, hs6, hnp, ho, hv, hsz, hg, hsz2, hg2, hso, etx, epl, ero, ebg, est, ewa, ekp, esn, hC, hM, rfl⟩ := hJ
  obtain ⟨s, p, z, a, b, c, f, k, q, o, sg, nm, at_, t, pK, pL, pQ, pW, pX, pY, pS, zK, zL, zQ, zW, zX, zY, zS, np0, nr0, kd0, lf0, qt0, wd0, rx0, ry0, sh0, g0, g00, ar, ar2, u, u2, qp, qc, qv, fl, ln, mt, fr, Q, f0, lin, mts, hnm, h04, h06, hcw⟩ := hC
  obtain ⟨mP, mW, mR, mB, mS, mA, mK, mE, mT, mD, nP, nW, nR, nB, mN, mO, mQ, mX, mat, mtd, rp, rr, rpg, rwn, rro, rbg, nw, rw, rs, dp, ot, hnmM, hmw⟩ := hM
  obtain ⟨y1, g1, ey1⟩ := zz_of (eX E (i + 1))
  obtain ⟨y2, g2_, ey2⟩ := zz_of (eX E (i + 2))
  refine rr_aload_n 1 dL_law_218 rfl ?_
  refine rr_aload_n 0 dL_law_219 rfl ?_
  refine rr_iload_n 3 dL_law_220 rfl ?_
  refine rr_iconst dL_law_221 ?_
  refine rr_iadd dL_law_222 ?_
  refine rr_sldZ (y := y1) (i + 1) (by omega) (by omega) (by omega) ey1 dL_law_223 ?_
  refine rr_aload_n 0 dL_law_224 rfl ?_
  refine rr_iload_n 3 dL_law_225 rfl ?_
  refine rr_iconst dL_law_226 ?_
  refine rr_iadd dL_law_227 ?_
  refine rr_sldZ (y := y2) (i + 2) (by omega) (by omega) (by omega) ey2 dL_law_228 ?_
  refine rr_callF (wr := [(s, ob 3 [.ref sg, .ref nm, .int (zz ↑len), .int (zz ↑at_)]), (sg, aC E 200 tx), (nm, aI E 4 t), (pW, aI E 10 wd), (pX, aI E 6 rx), (pY, aI E 6 ry), (pS, hO sh), (z, ob 2 [.ref zK, .ref zL, .ref zQ, .ref zW, .ref zX, .ref zY, .ref zS, .int (zz ↑np0), .int (zz ↑nr0)]), (zK, aI E 7 kd0), (zL, aI E 7 lf0), (zQ, aI E 7 qt0), (zW, aI E 10 wd0), (zX, aI E 6 rx0), (zY, aI E 6 ry0), (zS, hO sh0), (b, hO g0), (c, hO g00), (f, ob 4 [.ref ar, .int (zz ↑sz)]), (ar, aH E 8 (fun i => some (u i))), ((u 0), hO (g 0)), ((u 1), hO (g 1)), ((u 2), hO (g 2)), ((u 3), hO (g 3)), ((u 4), hO (g 4)), ((u 5), hO (g 5)), ((u 6), hO (g 6)), ((u 7), hO (g 7)), (k, ob 4 [.ref ar2, .int (zz ↑sz2)]), (ar2, aH E 2 (fun i => some (u2 i))), ((u2 0), hO (g2 0)), ((u2 1), hO (g2 1)), (q, ob 5 [.ref qp, .ref qc, .ref qv, .int (zz ↑ns)]), (qp, aI E 6 sp), (qc, aI E 6 sc), (qv, aI E 6 sv), (o, ob 1 [.ref p, .ref fl, .ref ln, .ref mt, .int (zz ↑fr), .int (zz (↑(Q.length)))]), (fl, hO f0), (ln, aI E 8000 lin), (mt, aI E 250 mts)]) (call_V (q0 := 0) kL_31 (c_peg E 16 x s p z a b c f k q o pK pL pQ pW pX pY pS np nr kd lf qt wd h hp ho y1 y2 g1 g2_) rfl rfl rfl rfl (by omega) (by decide) (Nat.le_of_ble_eq_true rfl) (Nat.le_of_ble_eq_true rfl) dL_law_229) hcw (perm_idx [0, 4, 5, 6, 7, 20, 1, 2, 3, 8, 9, 10, 11, 12, 13, 14, 15, 16, 17, 18, 19, 21, 22, 23, 24, 25, 26, 27, 28, 29, 30, 31, 32, 33, 34, 35, 36, 37, 38, 39, 40, 41, 42, 43, 44] 45 rfl rfl rfl) (fun v w1 hp1 => ?_)
  obtain ⟨rfl, rfl⟩ := hp1
  refine rr_aload_n 2 dL_law_232 rfl ?_
  refine rr_aload_n 0 dL_law_233 rfl ?_
  refine rr_iload_n 3 dL_law_234 rfl ?_
  refine rr_iconst dL_law_235 ?_
  refine rr_iadd dL_law_236 ?_
  refine rr_sldZ (y := y1) (i + 1) (by omega) (by omega) (by omega) ey1 dL_law_237 ?_
  refine rr_aload_n 0 dL_law_238 rfl ?_
  refine rr_iload_n 3 dL_law_239 rfl ?_
  refine rr_iconst dL_law_240 ?_
  refine rr_iadd dL_law_241 ?_
  refine rr_sldZ (y := y2) (i + 2) (by omega) (by omega) (by omega) ey2 dL_law_242 ?_
  refine rr_callG (wr := [(mW, aI E 10 wn), (mR, aI E 12 ro), (mB, aI E 7 bg), (mA, aI E 56 was), (mK, aI E 14 kp), (mE, aI E 18 sn), (mT, aI E 200 tx2), (mD, aI E 4 mtd), (nP, aI E 21 rpg), (nW, aI E 10 rwn), (nR, aI E 12 rro), (nB, aI E 7 rbg), (mO, aI E 7 rw), (mQ, aI E 49 rs), (mX, aI E 7 ot)]) (call_V (q0 := 0) kL_35 (c_Mpeg E 17 m mP mW mR mB mS mA mK mE mT mD nP nW nR nB mN mO mQ mX np nr sz sz2 ns len mat rp rr dp pg wn ro nw st kd lf qt wd rx ry h epl hp ero hr est ho hv y1 y2 g1 g2_) rfl rfl rfl rfl (by omega) (by decide) (Nat.le_of_ble_eq_true rfl) (Nat.le_of_ble_eq_true rfl) dL_law_243) hmw (perm_idx [0, 1, 15, 5, 2, 3, 4, 6, 7, 8, 9, 10, 11, 12, 13, 14, 16, 17, 18] 19 rfl rfl rfl) (fun v2 w2 hp2 => ?_)
  obtain ⟨rfl, nw2, rfl⟩ := hp2
  refine RR.eq (st2 := [Value.int _, Value.int _]) rfl rfl rfl rfl ?_
  refine rr_eqT 797 dL_law_246 (by decide) rfl ?_
  refine K _ (INV_mk E x m len tx np kd lf qt wd nr rx ry sh h sz g sz2 g2 ns sp sc sv tx2 pg wn ro bg st was kp sn hlen hp hr hsh hs4 hs6 hnp ho hv hsz hg hsz2 hg2 hso etx epl ero ebg est ewa ekp esn ?_ ?_)
  · exact ⟨s, p, z, a, b, c, f, k, q, o, sg, nm, at_, t, pK, pL, pQ, pW, pX, pY, pS, zK, zL, zQ, zW, zX, zY, zS, np0, nr0, kd0, lf0, qt0, wd0, rx0, ry0, sh0, g0, g00, ar, ar2, u, u2, qp, qc, qv, fl, ln, mt, fr, Q, f0, lin, mts, hnm, h04, h06, perm_idx [0, 6, 7, 8, 1, 2, 3, 4, 9, 10, 11, 12, 13, 14, 15, 16, 17, 18, 19, 20, 5, 21, 22, 23, 24, 25, 26, 27, 28, 29, 30, 31, 32, 33, 34, 35, 36, 37, 38, 39, 40, 41, 42, 43, 44] 45 rfl rfl rfl⟩
  · exact ⟨mP, mW, mR, mB, mS, mA, mK, mE, mT, mD, nP, nW, nR, nB, mN, mO, mQ, mX, mat, mtd, rp, rr, rpg, rwn, rro, rbg, nw2, rw, rs, dp, ot, hnmM, perm_idx [0, 1, 4, 5, 6, 3, 7, 8, 9, 10, 11, 12, 13, 14, 15, 2, 16, 17, 18] 19 rfl rfl rfl⟩
set_option maxRecDepth 100000 in
set_option maxHeartbeats 1000000 in
theorem lw_wind {E : Ev} {x m i kc ks : Nat} {ws : va_W} {post : Option Value → va_W → Prop} (hL : eL E ≤ 256) (hi : i + 4 ≤ eL E) (hJ : INV E x m ws) (K : ∀ ws2 : va_W, INV E x m ws2 → RR E mL_law 20 kc ks 797 [(0, .ref (eB E)), (1, .ref x), (2, .ref m), (3, .int (zz (i : Int)))] [] ws2 post) : RR E mL_law 20 kc ks 251 [(0, .ref (eB E)), (1, .ref x), (2, .ref m), (3, .int (zz (i : Int)))] [] ws post := by
  obtain ⟨len, tx, np, kd, lf, qt, wd, nr, rx, ry, sh, h, sz, g, sz2, g2, ns, sp, sc, sv, tx2, pg, wn, ro, bg, st, was, kp, sn, cw, mw, hlen, hp, hr, hsh, hs4, hs6, hnp, ho, hv, hsz, hg, hsz2, hg2, hso, etx, epl, ero, ebg, est, ewa, ekp, esn, hC, hM, rfl⟩ := hJ
  obtain ⟨s, p, z, a, b, c, f, k, q, o, sg, nm, at_, t, pK, pL, pQ, pW, pX, pY, pS, zK, zL, zQ, zW, zX, zY, zS, np0, nr0, kd0, lf0, qt0, wd0, rx0, ry0, sh0, g0, g00, ar, ar2, u, u2, qp, qc, qv, fl, ln, mt, fr, Q, f0, lin, mts, hnm, h04, h06, hcw⟩ := hC
  obtain ⟨mP, mW, mR, mB, mS, mA, mK, mE, mT, mD, nP, nW, nR, nB, mN, mO, mQ, mX, mat, mtd, rp, rr, rpg, rwn, rro, rbg, nw, rw, rs, dp, ot, hnmM, hmw⟩ := hM
  obtain ⟨y1, g1, ey1⟩ := zz_of (eX E (i + 1))
  refine rr_aload_n 1 dL_law_251 rfl ?_
  refine rr_aload_n 0 dL_law_252 rfl ?_
  refine rr_iload_n 3 dL_law_253 rfl ?_
  refine rr_iconst dL_law_254 ?_
  refine rr_iadd dL_law_255 ?_
  refine rr_sldZ (y := y1) (i + 1) (by omega) (by omega) (by omega) ey1 dL_law_256 ?_
  refine rr_callF (wr := [(s, ob 3 [.ref sg, .ref nm, .int (zz ↑len), .int (zz ↑at_)]), (sg, aC E 200 tx), (nm, aI E 4 t), (pK, aI E 7 kd), (pL, aI E 7 lf), (pQ, aI E 7 qt), (pX, aI E 6 rx), (pY, aI E 6 ry), (pS, hO sh), (z, ob 2 [.ref zK, .ref zL, .ref zQ, .ref zW, .ref zX, .ref zY, .ref zS, .int (zz ↑np0), .int (zz ↑nr0)]), (zK, aI E 7 kd0), (zL, aI E 7 lf0), (zQ, aI E 7 qt0), (zW, aI E 10 wd0), (zX, aI E 6 rx0), (zY, aI E 6 ry0), (zS, hO sh0), (a, hO h), (b, hO g0), (c, hO g00), (f, ob 4 [.ref ar, .int (zz ↑sz)]), (ar, aH E 8 (fun i => some (u i))), ((u 0), hO (g 0)), ((u 1), hO (g 1)), ((u 2), hO (g 2)), ((u 3), hO (g 3)), ((u 4), hO (g 4)), ((u 5), hO (g 5)), ((u 6), hO (g 6)), ((u 7), hO (g 7)), (k, ob 4 [.ref ar2, .int (zz ↑sz2)]), (ar2, aH E 2 (fun i => some (u2 i))), ((u2 0), hO (g2 0)), ((u2 1), hO (g2 1)), (q, ob 5 [.ref qp, .ref qc, .ref qv, .int (zz ↑ns)]), (qp, aI E 6 sp), (qc, aI E 6 sc), (qv, aI E 6 sv), (o, ob 1 [.ref p, .ref fl, .ref ln, .ref mt, .int (zz ↑fr), .int (zz (↑(Q.length)))]), (fl, hO f0), (ln, aI E 8000 lin), (mt, aI E 250 mts)]) (call_V (q0 := 0) kL_36 (c_wind E 18 x s p z a b c f k q o pK pL pQ pW pX pY pS np nr wd y1 g1) rfl rfl rfl rfl (by omega) (by decide) (Nat.le_of_ble_eq_true rfl) (Nat.le_of_ble_eq_true rfl) dL_law_257) hcw (perm_idx [0, 4, 8, 1, 2, 3, 5, 6, 7, 9, 10, 11, 12, 13, 14, 15, 16, 17, 18, 19, 20, 21, 22, 23, 24, 25, 26, 27, 28, 29, 30, 31, 32, 33, 34, 35, 36, 37, 38, 39, 40, 41, 42, 43, 44] 45 rfl rfl rfl) (fun v w1 hp1 => ?_)
  obtain ⟨rfl, rfl⟩ := hp1
  refine rr_aload_n 2 dL_law_260 rfl ?_
  refine rr_aload_n 0 dL_law_261 rfl ?_
  refine rr_iload_n 3 dL_law_262 rfl ?_
  refine rr_iconst dL_law_263 ?_
  refine rr_iadd dL_law_264 ?_
  refine rr_sldZ (y := y1) (i + 1) (by omega) (by omega) (by omega) ey1 dL_law_265 ?_
  refine rr_callG (wr := [(mP, aI E 21 pg), (mR, aI E 12 ro), (mB, aI E 7 bg), (mS, aI E 7 st), (mA, aI E 56 was), (mK, aI E 14 kp), (mE, aI E 18 sn), (mT, aI E 200 tx2), (mD, aI E 4 mtd), (nP, aI E 21 rpg), (nW, aI E 10 rwn), (nR, aI E 12 rro), (nB, aI E 7 rbg), (mN, aI E 7 nw), (mO, aI E 7 rw), (mQ, aI E 49 rs), (mX, aI E 7 ot)]) (call_V (q0 := 0) kL_39 (c_Mwind E 18 m mP mW mR mB mS mA mK mE mT mD nP nW nR nB mN mO mQ mX np nr sz sz2 ns len mat rp rr dp kd lf qt wd pg wn epl y1 g1) rfl rfl rfl rfl (by omega) (by decide) (Nat.le_of_ble_eq_true rfl) (Nat.le_of_ble_eq_true rfl) dL_law_266) hmw (perm_idx [0, 2, 1, 3, 4, 5, 6, 7, 8, 9, 10, 11, 12, 13, 14, 15, 16, 17, 18] 19 rfl rfl rfl) (fun v2 w2 hp2 => ?_)
  obtain ⟨rfl, rfl⟩ := hp2
  refine RR.eq (st2 := [Value.int _, Value.int _]) rfl rfl rfl rfl ?_
  refine rr_eqT 797 dL_law_269 (by decide) rfl ?_
  refine K _ (INV_mk E x m len tx np kd lf qt wd nr rx ry sh h sz g sz2 g2 ns sp sc sv tx2 pg wn ro bg st was kp sn hlen hp hr hsh hs4 hs6 hnp ho hv hsz hg hsz2 hg2 hso etx epl ero ebg est ewa ekp esn ?_ ?_)
  · exact ⟨s, p, z, a, b, c, f, k, q, o, sg, nm, at_, t, pK, pL, pQ, pW, pX, pY, pS, zK, zL, zQ, zW, zX, zY, zS, np0, nr0, kd0, lf0, qt0, wd0, rx0, ry0, sh0, g0, g00, ar, ar2, u, u2, qp, qc, qv, fl, ln, mt, fr, Q, f0, lin, mts, hnm, h04, h06, perm_idx [0, 3, 4, 5, 1, 6, 7, 8, 2, 9, 10, 11, 12, 13, 14, 15, 16, 17, 18, 19, 20, 21, 22, 23, 24, 25, 26, 27, 28, 29, 30, 31, 32, 33, 34, 35, 36, 37, 38, 39, 40, 41, 42, 43, 44] 45 rfl rfl rfl⟩
  · exact ⟨mP, mW, mR, mB, mS, mA, mK, mE, mT, mD, nP, nW, nR, nB, mN, mO, mQ, mX, mat, mtd, rp, rr, rpg, rwn, rro, rbg, nw, rw, rs, dp, ot, hnmM, perm_idx [0, 2, 1, 3, 4, 5, 6, 7, 8, 9, 10, 11, 12, 13, 14, 15, 16, 17, 18] 19 rfl rfl rfl⟩
set_option maxRecDepth 100000 in
set_option maxHeartbeats 1000000 in
theorem lw_roof {E : Ev} {x m i kc ks : Nat} {ws : va_W} {post : Option Value → va_W → Prop} (hL : eL E ≤ 256) (hi : i + 4 ≤ eL E) (hJ : INV E x m ws) (K : ∀ ws2 : va_W, INV E x m ws2 → RR E mL_law 20 kc ks 797 [(0, .ref (eB E)), (1, .ref x), (2, .ref m), (3, .int (zz (i : Int)))] [] ws2 post) : RR E mL_law 20 kc ks 274 [(0, .ref (eB E)), (1, .ref x), (2, .ref m), (3, .int (zz (i : Int)))] [] ws post := by
  obtain ⟨len, tx, np, kd, lf, qt, wd, nr, rx, ry, sh, h, sz, g, sz2, g2, ns, sp, sc, sv, tx2, pg, wn, ro, bg, st, was, kp, sn, cw, mw, hlen, hp, hr, hsh, hs4, hs6, hnp, ho, hv, hsz, hg, hsz2, hg2, hso, etx, epl, ero, ebg, est, ewa, ekp, esn, hC, hM, rfl⟩ := hJ
  obtain ⟨s, p, z, a, b, c, f, k, q, o, sg, nm, at_, t, pK, pL, pQ, pW, pX, pY, pS, zK, zL, zQ, zW, zX, zY, zS, np0, nr0, kd0, lf0, qt0, wd0, rx0, ry0, sh0, g0, g00, ar, ar2, u, u2, qp, qc, qv, fl, ln, mt, fr, Q, f0, lin, mts, hnm, h04, h06, hcw⟩ := hC
  obtain ⟨mP, mW, mR, mB, mS, mA, mK, mE, mT, mD, nP, nW, nR, nB, mN, mO, mQ, mX, mat, mtd, rp, rr, rpg, rwn, rro, rbg, nw, rw, rs, dp, ot, hnmM, hmw⟩ := hM
  obtain ⟨y1, g1, ey1⟩ := zz_of (eX E (i + 1))
  obtain ⟨y2, g2_, ey2⟩ := zz_of (eX E (i + 2))
  refine rr_aload_n 1 dL_law_274 rfl ?_
  refine rr_aload_n 0 dL_law_275 rfl ?_
  refine rr_iload_n 3 dL_law_276 rfl ?_
  refine rr_iconst dL_law_277 ?_
  refine rr_iadd dL_law_278 ?_
  refine rr_sldZ (y := y1) (i + 1) (by omega) (by omega) (by omega) ey1 dL_law_279 ?_
  refine rr_aload_n 0 dL_law_280 rfl ?_
  refine rr_iload_n 3 dL_law_281 rfl ?_
  refine rr_iconst dL_law_282 ?_
  refine rr_iadd dL_law_283 ?_
  refine rr_sldZ (y := y2) (i + 2) (by omega) (by omega) (by omega) ey2 dL_law_284 ?_
  refine rr_callF (wr := [(s, ob 3 [.ref sg, .ref nm, .int (zz ↑len), .int (zz ↑at_)]), (sg, aC E 200 tx), (nm, aI E 4 t), (pK, aI E 7 kd), (pL, aI E 7 lf), (pQ, aI E 7 qt), (pW, aI E 10 wd), (pS, hO sh), (z, ob 2 [.ref zK, .ref zL, .ref zQ, .ref zW, .ref zX, .ref zY, .ref zS, .int (zz ↑np0), .int (zz ↑nr0)]), (zK, aI E 7 kd0), (zL, aI E 7 lf0), (zQ, aI E 7 qt0), (zW, aI E 10 wd0), (zX, aI E 6 rx0), (zY, aI E 6 ry0), (zS, hO sh0), (a, hO h), (b, hO g0), (c, hO g00), (f, ob 4 [.ref ar, .int (zz ↑sz)]), (ar, aH E 8 (fun i => some (u i))), ((u 0), hO (g 0)), ((u 1), hO (g 1)), ((u 2), hO (g 2)), ((u 3), hO (g 3)), ((u 4), hO (g 4)), ((u 5), hO (g 5)), ((u 6), hO (g 6)), ((u 7), hO (g 7)), (k, ob 4 [.ref ar2, .int (zz ↑sz2)]), (ar2, aH E 2 (fun i => some (u2 i))), ((u2 0), hO (g2 0)), ((u2 1), hO (g2 1)), (q, ob 5 [.ref qp, .ref qc, .ref qv, .int (zz ↑ns)]), (qp, aI E 6 sp), (qc, aI E 6 sc), (qv, aI E 6 sv), (o, ob 1 [.ref p, .ref fl, .ref ln, .ref mt, .int (zz ↑fr), .int (zz (↑(Q.length)))]), (fl, hO f0), (ln, aI E 8000 lin), (mt, aI E 250 mts)]) (call_V (q0 := 0) kL_40 (c_roof E 18 x s p z a b c f k q o pK pL pQ pW pX pY pS np nr rx ry y1 y2 hr.1 g1 g2_) rfl rfl rfl rfl (by omega) (by decide) (Nat.le_of_ble_eq_true rfl) (Nat.le_of_ble_eq_true rfl) dL_law_285) hcw (perm_idx [0, 4, 9, 10, 1, 2, 3, 5, 6, 7, 8, 11, 12, 13, 14, 15, 16, 17, 18, 19, 20, 21, 22, 23, 24, 25, 26, 27, 28, 29, 30, 31, 32, 33, 34, 35, 36, 37, 38, 39, 40, 41, 42, 43, 44] 45 rfl rfl rfl) (fun v w1 hp1 => ?_)
  obtain ⟨rfl, rfl⟩ := hp1
  refine rr_aload_n 2 dL_law_288 rfl ?_
  refine rr_aload_n 0 dL_law_289 rfl ?_
  refine rr_iload_n 3 dL_law_290 rfl ?_
  refine rr_iconst dL_law_291 ?_
  refine rr_iadd dL_law_292 ?_
  refine rr_sldZ (y := y1) (i + 1) (by omega) (by omega) (by omega) ey1 dL_law_293 ?_
  refine rr_aload_n 0 dL_law_294 rfl ?_
  refine rr_iload_n 3 dL_law_295 rfl ?_
  refine rr_iconst dL_law_296 ?_
  refine rr_iadd dL_law_297 ?_
  refine rr_sldZ (y := y2) (i + 2) (by omega) (by omega) (by omega) ey2 dL_law_298 ?_
  refine rr_callG (wr := [(mP, aI E 21 pg), (mW, aI E 10 wn), (mB, aI E 7 bg), (mS, aI E 7 st), (mA, aI E 56 was), (mK, aI E 14 kp), (mE, aI E 18 sn), (mT, aI E 200 tx2), (mD, aI E 4 mtd), (nP, aI E 21 rpg), (nW, aI E 10 rwn), (nR, aI E 12 rro), (nB, aI E 7 rbg), (mN, aI E 7 nw), (mO, aI E 7 rw), (mQ, aI E 49 rs), (mX, aI E 7 ot)]) (call_V (q0 := 0) kL_43 (c_Mroof E 17 m mP mW mR mB mS mA mK mE mT mD nP nW nR nB mN mO mQ mX np nr sz sz2 ns len mat rp rr dp rx ry ro ero hr.1 y1 y2 g1 g2_) rfl rfl rfl rfl (by omega) (by decide) (Nat.le_of_ble_eq_true rfl) (Nat.le_of_ble_eq_true rfl) dL_law_299) hmw (perm_idx [0, 3, 1, 2, 4, 5, 6, 7, 8, 9, 10, 11, 12, 13, 14, 15, 16, 17, 18] 19 rfl rfl rfl) (fun v2 w2 hp2 => ?_)
  obtain ⟨rfl, rfl⟩ := hp2
  refine RR.eq (st2 := [Value.int _, Value.int _]) rfl rfl rfl rfl ?_
  refine rr_eqT 797 dL_law_302 (by decide) rfl ?_
  refine K _ (INV_mk E x m len tx np kd lf qt wd nr rx ry sh h sz g sz2 g2 ns sp sc sv tx2 pg wn ro bg st was kp sn hlen hp hr hsh hs4 hs6 hnp ho hv hsz hg hsz2 hg2 hso etx epl ero ebg est ewa ekp esn ?_ ?_)
  · exact ⟨s, p, z, a, b, c, f, k, q, o, sg, nm, at_, t, pK, pL, pQ, pW, pX, pY, pS, zK, zL, zQ, zW, zX, zY, zS, np0, nr0, kd0, lf0, qt0, wd0, rx0, ry0, sh0, g0, g00, ar, ar2, u, u2, qp, qc, qv, fl, ln, mt, fr, Q, f0, lin, mts, hnm, h04, h06, perm_idx [0, 4, 5, 6, 1, 7, 8, 9, 10, 2, 3, 11, 12, 13, 14, 15, 16, 17, 18, 19, 20, 21, 22, 23, 24, 25, 26, 27, 28, 29, 30, 31, 32, 33, 34, 35, 36, 37, 38, 39, 40, 41, 42, 43, 44] 45 rfl rfl rfl⟩
  · exact ⟨mP, mW, mR, mB, mS, mA, mK, mE, mT, mD, nP, nW, nR, nB, mN, mO, mQ, mX, mat, mtd, rp, rr, rpg, rwn, rro, rbg, nw, rw, rs, dp, ot, hnmM, perm_idx [0, 2, 3, 1, 4, 5, 6, 7, 8, 9, 10, 11, 12, 13, 14, 15, 16, 17, 18] 19 rfl rfl rfl⟩
set_option maxRecDepth 100000 in
set_option maxHeartbeats 1000000 in
theorem lw_turn {E : Ev} {x m i kc ks : Nat} {ws : va_W} {post : Option Value → va_W → Prop} (hL : eL E ≤ 256) (hi : i + 4 ≤ eL E) (hJ : INV E x m ws) (K : ∀ ws2 : va_W, INV E x m ws2 → RR E mL_law 20 kc ks 797 [(0, .ref (eB E)), (1, .ref x), (2, .ref m), (3, .int (zz (i : Int)))] [] ws2 post) : RR E mL_law 20 kc ks 307 [(0, .ref (eB E)), (1, .ref x), (2, .ref m), (3, .int (zz (i : Int)))] [] ws post := by
  obtain ⟨len, tx, np, kd, lf, qt, wd, nr, rx, ry, sh, h, sz, g, sz2, g2, ns, sp, sc, sv, tx2, pg, wn, ro, bg, st, was, kp, sn, cw, mw, hlen, hp, hr, hsh, hs4, hs6, hnp, ho, hv, hsz, hg, hsz2, hg2, hso, etx, epl, ero, ebg, est, ewa, ekp, esn, hC, hM, rfl⟩ := hJ
  obtain ⟨s, p, z, a, b, c, f, k, q, o, sg, nm, at_, t, pK, pL, pQ, pW, pX, pY, pS, zK, zL, zQ, zW, zX, zY, zS, np0, nr0, kd0, lf0, qt0, wd0, rx0, ry0, sh0, g0, g00, ar, ar2, u, u2, qp, qc, qv, fl, ln, mt, fr, Q, f0, lin, mts, hnm, h04, h06, hcw⟩ := hC
  obtain ⟨mP, mW, mR, mB, mS, mA, mK, mE, mT, mD, nP, nW, nR, nB, mN, mO, mQ, mX, mat, mtd, rp, rr, rpg, rwn, rro, rbg, nw, rw, rs, dp, ot, hnmM, hmw⟩ := hM
  obtain ⟨y1, g1, ey1⟩ := zz_of (eX E (i + 1))
  by_cases hy : 0 ≤ y1 ∧ y1 < (np : Int)
  · skip
    by_cases hd : h 2 = 0
    · skip
      refine rr_aload_n 1 dL_law_307 rfl ?_
      refine rr_aload_n 0 dL_law_308 rfl ?_
      refine rr_iload_n 3 dL_law_309 rfl ?_
      refine rr_iconst dL_law_310 ?_
      refine rr_iadd dL_law_311 ?_
      refine rr_sldZ (y := y1) (i + 1) (by omega) (by omega) (by omega) ey1 dL_law_312 ?_
      refine rr_callF (wr := [(s, ob 3 [.ref sg, .ref nm, .int (zz ↑len), .int (zz ↑at_)]), (sg, aC E 200 tx), (nm, aI E 4 t), (pK, aI E 7 kd), (pL, aI E 7 lf), (pQ, aI E 7 qt), (pW, aI E 10 wd), (pX, aI E 6 rx), (pY, aI E 6 ry), (pS, hO sh), (z, ob 2 [.ref zK, .ref zL, .ref zQ, .ref zW, .ref zX, .ref zY, .ref zS, .int (zz ↑np0), .int (zz ↑nr0)]), (zK, aI E 7 kd0), (zL, aI E 7 lf0), (zQ, aI E 7 qt0), (zW, aI E 10 wd0), (zX, aI E 6 rx0), (zY, aI E 6 ry0), (zS, hO sh0), (b, hO g0), (c, hO g00), (f, ob 4 [.ref ar, .int (zz ↑sz)]), (ar, aH E 8 (fun i => some (u i))), ((u 0), hO (g 0)), ((u 1), hO (g 1)), ((u 2), hO (g 2)), ((u 3), hO (g 3)), ((u 4), hO (g 4)), ((u 5), hO (g 5)), ((u 6), hO (g 6)), ((u 7), hO (g 7)), (k, ob 4 [.ref ar2, .int (zz ↑sz2)]), (ar2, aH E 2 (fun i => some (u2 i))), ((u2 0), hO (g2 0)), ((u2 1), hO (g2 1)), (q, ob 5 [.ref qp, .ref qc, .ref qv, .int (zz ↑ns)]), (qp, aI E 6 sp), (qc, aI E 6 sc), (qv, aI E 6 sv), (o, ob 1 [.ref p, .ref fl, .ref ln, .ref mt, .int (zz ↑fr), .int (zz (↑(Q.length)))]), (fl, hO f0), (ln, aI E 8000 lin), (mt, aI E 250 mts)]) (call_V (q0 := 0) kL_44 (c_turn_no E 15 x s p z a b c f k q o pK pL pQ pW pX pY pS np nr h y1 hp.1 hy hd) rfl rfl rfl rfl (by omega) (by decide) (Nat.le_of_ble_eq_true rfl) (Nat.le_of_ble_eq_true rfl) dL_law_313) hcw (perm_idx [0, 4, 20, 1, 2, 3, 5, 6, 7, 8, 9, 10, 11, 12, 13, 14, 15, 16, 17, 18, 19, 21, 22, 23, 24, 25, 26, 27, 28, 29, 30, 31, 32, 33, 34, 35, 36, 37, 38, 39, 40, 41, 42, 43, 44] 45 rfl rfl rfl) (fun v w1 hp1 => ?_)
      obtain ⟨rfl, rfl⟩ := hp1
      refine rr_aload_n 2 dL_law_316 rfl ?_
      refine rr_aload_n 0 dL_law_317 rfl ?_
      refine rr_iload_n 3 dL_law_318 rfl ?_
      refine rr_iconst dL_law_319 ?_
      refine rr_iadd dL_law_320 ?_
      refine rr_sldZ (y := y1) (i + 1) (by omega) (by omega) (by omega) ey1 dL_law_321 ?_
      refine rr_callG (wr := [(mP, aI E 21 pg), (mW, aI E 10 wn), (mR, aI E 12 ro), (mB, aI E 7 bg), (mA, aI E 56 was), (mK, aI E 14 kp), (mE, aI E 18 sn), (mT, aI E 200 tx2), (mD, aI E 4 mtd), (nP, aI E 21 rpg), (nW, aI E 10 rwn), (nR, aI E 12 rro), (nB, aI E 7 rbg), (mO, aI E 7 rw), (mQ, aI E 49 rs), (mX, aI E 7 ot)]) (call_V (q0 := 0) kL_47 (c_Mturn_no E 15 m mP mW mR mB mS mA mK mE mT mD nP nW nR nB mN mO mQ mX np nr sz sz2 ns len mat rp rr dp pg wn ro nw st kd lf qt wd rx ry h epl hp ero hr est ho hv y1 hy hd) rfl rfl rfl rfl (by omega) (by decide) (Nat.le_of_ble_eq_true rfl) (Nat.le_of_ble_eq_true rfl) dL_law_322) hmw (perm_idx [0, 15, 5, 1, 2, 3, 4, 6, 7, 8, 9, 10, 11, 12, 13, 14, 16, 17, 18] 19 rfl rfl rfl) (fun v2 w2 hp2 => ?_)
      obtain ⟨rfl, nw2, rfl⟩ := hp2
      refine RR.eq (st2 := [Value.int _, Value.int _]) rfl rfl rfl rfl ?_
      refine rr_eqT 797 dL_law_325 (by decide) rfl ?_
      refine K _ (INV_mk E x m len tx np kd lf qt wd nr rx ry sh h sz g sz2 g2 ns sp sc sv tx2 pg wn ro bg st was kp sn hlen hp hr hsh hs4 hs6 hnp ho hv hsz hg hsz2 hg2 hso etx epl ero ebg est ewa ekp esn ?_ ?_)
      · exact ⟨s, p, z, a, b, c, f, k, q, o, sg, nm, at_, t, pK, pL, pQ, pW, pX, pY, pS, zK, zL, zQ, zW, zX, zY, zS, np0, nr0, kd0, lf0, qt0, wd0, rx0, ry0, sh0, g0, g00, ar, ar2, u, u2, qp, qc, qv, fl, ln, mt, fr, Q, f0, lin, mts, hnm, h04, h06, perm_idx [0, 3, 4, 5, 1, 6, 7, 8, 9, 10, 11, 12, 13, 14, 15, 16, 17, 18, 19, 20, 2, 21, 22, 23, 24, 25, 26, 27, 28, 29, 30, 31, 32, 33, 34, 35, 36, 37, 38, 39, 40, 41, 42, 43, 44] 45 rfl rfl rfl⟩
      · exact ⟨mP, mW, mR, mB, mS, mA, mK, mE, mT, mD, nP, nW, nR, nB, mN, mO, mQ, mX, mat, mtd, rp, rr, rpg, rwn, rro, rbg, nw2, rw, rs, dp, ot, hnmM, perm_idx [0, 3, 4, 5, 6, 2, 7, 8, 9, 10, 11, 12, 13, 14, 15, 1, 16, 17, 18] 19 rfl rfl rfl⟩
    · skip
      obtain ⟨ip, rfl⟩ : ∃ n : Nat, y1 = (n : Int) := ⟨y1.toNat, by omega⟩
      have hip : ip < np := by omega
      refine rr_aload_n 1 dL_law_307 rfl ?_
      refine rr_aload_n 0 dL_law_308 rfl ?_
      refine rr_iload_n 3 dL_law_309 rfl ?_
      refine rr_iconst dL_law_310 ?_
      refine rr_iadd dL_law_311 ?_
      refine rr_sldZ (y := ↑ip) (i + 1) (by omega) (by omega) (by omega) ey1 dL_law_312 ?_
      refine rr_callF (wr := [(s, ob 3 [.ref sg, .ref nm, .int (zz ↑len), .int (zz ↑at_)]), (sg, aC E 200 tx), (nm, aI E 4 t), (pX, aI E 6 rx), (pY, aI E 6 ry), (pS, hO sh), (z, ob 2 [.ref zK, .ref zL, .ref zQ, .ref zW, .ref zX, .ref zY, .ref zS, .int (zz ↑np0), .int (zz ↑nr0)]), (zK, aI E 7 kd0), (zL, aI E 7 lf0), (zQ, aI E 7 qt0), (zW, aI E 10 wd0), (zX, aI E 6 rx0), (zY, aI E 6 ry0), (zS, hO sh0), (b, hO g0), (c, hO g00), (k, ob 4 [.ref ar2, .int (zz ↑sz2)]), (ar2, aH E 2 (fun i => some (u2 i))), ((u2 0), hO (g2 0)), ((u2 1), hO (g2 1)), (q, ob 5 [.ref qp, .ref qc, .ref qv, .int (zz ↑ns)]), (qp, aI E 6 sp), (qc, aI E 6 sc), (qv, aI E 6 sv), (o, ob 1 [.ref p, .ref fl, .ref ln, .ref mt, .int (zz ↑fr), .int (zz (↑(Q.length)))]), (fl, hO f0), (ln, aI E 8000 lin), (mt, aI E 250 mts)]) (call_V (q0 := 0) kL_44 (c_turn_y E 15 x s p z a b c f k q o pK pL pQ pW pX pY pS np nr kd lf qt wd h hp ho ar u g sz ip hip hsz hd) rfl rfl rfl rfl (by omega) (by decide) (Nat.le_of_ble_eq_true rfl) (Nat.le_of_ble_eq_true rfl) dL_law_313) hcw (perm_idx [0, 4, 5, 6, 7, 8, 23, 24, 25, 26, 27, 28, 29, 30, 31, 32, 20, 1, 2, 3, 9, 10, 11, 12, 13, 14, 15, 16, 17, 18, 19, 21, 22, 33, 34, 35, 36, 37, 38, 39, 40, 41, 42, 43, 44] 45 rfl rfl rfl) (fun v w1 hp1 => ?_)
      obtain ⟨rfl, u3, rfl⟩ := hp1
      refine rr_aload_n 2 dL_law_316 rfl ?_
      refine rr_aload_n 0 dL_law_317 rfl ?_
      refine rr_iload_n 3 dL_law_318 rfl ?_
      refine rr_iconst dL_law_319 ?_
      refine rr_iadd dL_law_320 ?_
      refine rr_sldZ (y := ↑ip) (i + 1) (by omega) (by omega) (by omega) ey1 dL_law_321 ?_
      refine rr_callG (wr := [(mR, aI E 12 ro), (mB, aI E 7 bg), (mK, aI E 14 kp), (mE, aI E 18 sn), (mT, aI E 200 tx2), (mD, aI E 4 mtd), (nP, aI E 21 rpg), (nW, aI E 10 rwn), (nR, aI E 12 rro), (nB, aI E 7 rbg), (mO, aI E 7 rw), (mQ, aI E 49 rs), (mX, aI E 7 ot)]) (call_V (q0 := 0) kL_47 (c_Mturn_y E 15 m mP mW mR mB mS mA mK mE mT mD nP nW nR nB mN mO mQ mX np nr sz sz2 ns len mat rp rr dp pg wn ro nw st kd lf qt wd rx ry h epl hp ero hr est ho hv was ip hip hsz hd) rfl rfl rfl rfl (by omega) (by decide) (Nat.le_of_ble_eq_true rfl) (Nat.le_of_ble_eq_true rfl) dL_law_322) hmw (perm_idx [0, 1, 2, 15, 5, 6, 3, 4, 7, 8, 9, 10, 11, 12, 13, 14, 16, 17, 18] 19 rfl rfl rfl) (fun v2 w2 hp2 => ?_)
      obtain ⟨rfl, nw2, st2, ha2, rfl⟩ := hp2
      refine RR.eq (st2 := [Value.int _, Value.int _]) rfl rfl rfl rfl ?_
      refine rr_eqT 797 dL_law_325 (by decide) rfl ?_
      refine K _ (INV_mk E x m len tx np kd lf qt wd nr rx ry sh (tnF np kd lf qt wd h ip) (putN sz) (putG g sz h) sz2 g2 ns sp sc sv tx2 pg wn ro bg st2 (rmM was sz st) kp sn hlen hp hr hsh hs4 hs6 hnp (tnF_ok hp ho hip) (tnF_hV hip) ((putN_le hsz).1) (putG_all (Q := fun h => hOK h ∧ hV np h) hsz hg ⟨ho, hv⟩) hsz2 hg2 hso etx epl ero ebg ha2 (rm_rel hsz ewa est) ekp esn ?_ ?_)
      · exact ⟨s, p, z, a, b, c, f, k, q, o, sg, nm, at_, t, pK, pL, pQ, pW, pX, pY, pS, zK, zL, zQ, zW, zX, zY, zS, np0, nr0, kd0, lf0, qt0, wd0, rx0, ry0, sh0, g0, g00, ar, ar2, u3, u2, qp, qc, qv, fl, ln, mt, fr, Q, f0, lin, mts, hnm, h04, h06, perm_idx [0, 17, 18, 19, 1, 2, 3, 4, 5, 20, 21, 22, 23, 24, 25, 26, 27, 28, 29, 30, 16, 31, 32, 6, 7, 8, 9, 10, 11, 12, 13, 14, 15, 33, 34, 35, 36, 37, 38, 39, 40, 41, 42, 43, 44] 45 rfl rfl rfl⟩
      · exact ⟨mP, mW, mR, mB, mS, mA, mK, mE, mT, mD, nP, nW, nR, nB, mN, mO, mQ, mX, mat, mtd, rp, rr, rpg, rwn, rro, rbg, nw2, rw, rs, dp, ot, hnmM, perm_idx [0, 1, 2, 6, 7, 4, 5, 8, 9, 10, 11, 12, 13, 14, 15, 3, 16, 17, 18] 19 rfl rfl rfl⟩
  · skip
    refine rr_aload_n 1 dL_law_307 rfl ?_
    refine rr_aload_n 0 dL_law_308 rfl ?_
    refine rr_iload_n 3 dL_law_309 rfl ?_
    refine rr_iconst dL_law_310 ?_
    refine rr_iadd dL_law_311 ?_
    refine rr_sldZ (y := y1) (i + 1) (by omega) (by omega) (by omega) ey1 dL_law_312 ?_
    refine rr_callF (wr := [(s, ob 3 [.ref sg, .ref nm, .int (zz ↑len), .int (zz ↑at_)]), (sg, aC E 200 tx), (nm, aI E 4 t), (pK, aI E 7 kd), (pL, aI E 7 lf), (pQ, aI E 7 qt), (pW, aI E 10 wd), (pX, aI E 6 rx), (pY, aI E 6 ry), (pS, hO sh), (z, ob 2 [.ref zK, .ref zL, .ref zQ, .ref zW, .ref zX, .ref zY, .ref zS, .int (zz ↑np0), .int (zz ↑nr0)]), (zK, aI E 7 kd0), (zL, aI E 7 lf0), (zQ, aI E 7 qt0), (zW, aI E 10 wd0), (zX, aI E 6 rx0), (zY, aI E 6 ry0), (zS, hO sh0), (a, hO h), (b, hO g0), (c, hO g00), (f, ob 4 [.ref ar, .int (zz ↑sz)]), (ar, aH E 8 (fun i => some (u i))), ((u 0), hO (g 0)), ((u 1), hO (g 1)), ((u 2), hO (g 2)), ((u 3), hO (g 3)), ((u 4), hO (g 4)), ((u 5), hO (g 5)), ((u 6), hO (g 6)), ((u 7), hO (g 7)), (k, ob 4 [.ref ar2, .int (zz ↑sz2)]), (ar2, aH E 2 (fun i => some (u2 i))), ((u2 0), hO (g2 0)), ((u2 1), hO (g2 1)), (q, ob 5 [.ref qp, .ref qc, .ref qv, .int (zz ↑ns)]), (qp, aI E 6 sp), (qc, aI E 6 sc), (qv, aI E 6 sv), (o, ob 1 [.ref p, .ref fl, .ref ln, .ref mt, .int (zz ↑fr), .int (zz (↑(Q.length)))]), (fl, hO f0), (ln, aI E 8000 lin), (mt, aI E 250 mts)]) (call_V (q0 := 0) kL_44 (c_turn_bad E 15 x s p z a b c f k q o pK pL pQ pW pX pY pS np nr y1 g1 hp.1 hy) rfl rfl rfl rfl (by omega) (by decide) (Nat.le_of_ble_eq_true rfl) (Nat.le_of_ble_eq_true rfl) dL_law_313) hcw (perm_idx [0, 4, 1, 2, 3, 5, 6, 7, 8, 9, 10, 11, 12, 13, 14, 15, 16, 17, 18, 19, 20, 21, 22, 23, 24, 25, 26, 27, 28, 29, 30, 31, 32, 33, 34, 35, 36, 37, 38, 39, 40, 41, 42, 43, 44] 45 rfl rfl rfl) (fun v w1 hp1 => ?_)
    obtain ⟨rfl, rfl⟩ := hp1
    refine rr_aload_n 2 dL_law_316 rfl ?_
    refine rr_aload_n 0 dL_law_317 rfl ?_
    refine rr_iload_n 3 dL_law_318 rfl ?_
    refine rr_iconst dL_law_319 ?_
    refine rr_iadd dL_law_320 ?_
    refine rr_sldZ (y := y1) (i + 1) (by omega) (by omega) (by omega) ey1 dL_law_321 ?_
    refine rr_callG (wr := [(mP, aI E 21 pg), (mW, aI E 10 wn), (mR, aI E 12 ro), (mB, aI E 7 bg), (mS, aI E 7 st), (mA, aI E 56 was), (mK, aI E 14 kp), (mE, aI E 18 sn), (mT, aI E 200 tx2), (mD, aI E 4 mtd), (nP, aI E 21 rpg), (nW, aI E 10 rwn), (nR, aI E 12 rro), (nB, aI E 7 rbg), (mN, aI E 7 nw), (mO, aI E 7 rw), (mQ, aI E 49 rs), (mX, aI E 7 ot)]) (call_V (q0 := 0) kL_47 (c_Mturn_bad E 15 m mP mW mR mB mS mA mK mE mT mD nP nW nR nB mN mO mQ mX np nr sz sz2 ns len mat rp rr dp y1 g1 hp.1 hy) rfl rfl rfl rfl (by omega) (by decide) (Nat.le_of_ble_eq_true rfl) (Nat.le_of_ble_eq_true rfl) dL_law_322) hmw (perm_idx [0, 1, 2, 3, 4, 5, 6, 7, 8, 9, 10, 11, 12, 13, 14, 15, 16, 17, 18] 19 rfl rfl rfl) (fun v2 w2 hp2 => ?_)
    obtain ⟨rfl, rfl⟩ := hp2
    refine RR.eq (st2 := [Value.int _, Value.int _]) rfl rfl rfl rfl ?_
    refine rr_eqT 797 dL_law_325 (by decide) rfl ?_
    refine K _ (INV_mk E x m len tx np kd lf qt wd nr rx ry sh h sz g sz2 g2 ns sp sc sv tx2 pg wn ro bg st was kp sn hlen hp hr hsh hs4 hs6 hnp ho hv hsz hg hsz2 hg2 hso etx epl ero ebg est ewa ekp esn ?_ ?_)
    · exact ⟨s, p, z, a, b, c, f, k, q, o, sg, nm, at_, t, pK, pL, pQ, pW, pX, pY, pS, zK, zL, zQ, zW, zX, zY, zS, np0, nr0, kd0, lf0, qt0, wd0, rx0, ry0, sh0, g0, g00, ar, ar2, u, u2, qp, qc, qv, fl, ln, mt, fr, Q, f0, lin, mts, hnm, h04, h06, perm_idx [0, 2, 3, 4, 1, 5, 6, 7, 8, 9, 10, 11, 12, 13, 14, 15, 16, 17, 18, 19, 20, 21, 22, 23, 24, 25, 26, 27, 28, 29, 30, 31, 32, 33, 34, 35, 36, 37, 38, 39, 40, 41, 42, 43, 44] 45 rfl rfl rfl⟩
    · exact ⟨mP, mW, mR, mB, mS, mA, mK, mE, mT, mD, nP, nW, nR, nB, mN, mO, mQ, mX, mat, mtd, rp, rr, rpg, rwn, rro, rbg, nw, rw, rs, dp, ot, hnmM, perm_idx [0, 1, 2, 3, 4, 5, 6, 7, 8, 9, 10, 11, 12, 13, 14, 15, 16, 17, 18] 19 rfl rfl rfl⟩
set_option maxRecDepth 100000 in
set_option maxHeartbeats 1000000 in
theorem lw_flyOn {E : Ev} {x m i kc ks : Nat} {ws : va_W} {post : Option Value → va_W → Prop} (hL : eL E ≤ 256) (hi : i + 4 ≤ eL E) (hJ : INV E x m ws) (K : ∀ ws2 : va_W, INV E x m ws2 → RR E mL_law 20 kc ks 797 [(0, .ref (eB E)), (1, .ref x), (2, .ref m), (3, .int (zz (i : Int)))] [] ws2 post) : RR E mL_law 20 kc ks 330 [(0, .ref (eB E)), (1, .ref x), (2, .ref m), (3, .int (zz (i : Int)))] [] ws post := by
  obtain ⟨len, tx, np, kd, lf, qt, wd, nr, rx, ry, sh, h, sz, g, sz2, g2, ns, sp, sc, sv, tx2, pg, wn, ro, bg, st, was, kp, sn, cw, mw, hlen, hp, hr, hsh, hs4, hs6, hnp, ho, hv, hsz, hg, hsz2, hg2, hso, etx, epl, ero, ebg, est, ewa, ekp, esn, hC, hM, rfl⟩ := hJ
  obtain ⟨s, p, z, a, b, c, f, k, q, o, sg, nm, at_, t, pK, pL, pQ, pW, pX, pY, pS, zK, zL, zQ, zW, zX, zY, zS, np0, nr0, kd0, lf0, qt0, wd0, rx0, ry0, sh0, g0, g00, ar, ar2, u, u2, qp, qc, qv, fl, ln, mt, fr, Q, f0, lin, mts, hnm, h04, h06, hcw⟩ := hC
  obtain ⟨mP, mW, mR, mB, mS, mA, mK, mE, mT, mD, nP, nW, nR, nB, mN, mO, mQ, mX, mat, mtd, rp, rr, rpg, rwn, rro, rbg, nw, rw, rs, dp, ot, hnmM, hmw⟩ := hM
  by_cases hd : h 2 = 0
  · skip
    refine rr_aload_n 1 dL_law_330 rfl ?_
    refine rr_callF (wr := [(s, ob 3 [.ref sg, .ref nm, .int (zz ↑len), .int (zz ↑at_)]), (sg, aC E 200 tx), (nm, aI E 4 t), (p, ob 2 [.ref pK, .ref pL, .ref pQ, .ref pW, .ref pX, .ref pY, .ref pS, .int (zz ↑np), .int (zz ↑nr)]), (pK, aI E 7 kd), (pL, aI E 7 lf), (pQ, aI E 7 qt), (pW, aI E 10 wd), (pX, aI E 6 rx), (pY, aI E 6 ry), (pS, hO sh), (z, ob 2 [.ref zK, .ref zL, .ref zQ, .ref zW, .ref zX, .ref zY, .ref zS, .int (zz ↑np0), .int (zz ↑nr0)]), (zK, aI E 7 kd0), (zL, aI E 7 lf0), (zQ, aI E 7 qt0), (zW, aI E 10 wd0), (zX, aI E 6 rx0), (zY, aI E 6 ry0), (zS, hO sh0), (b, hO g0), (c, hO g00), (f, ob 4 [.ref ar, .int (zz ↑sz)]), (ar, aH E 8 (fun i => some (u i))), ((u 0), hO (g 0)), ((u 1), hO (g 1)), ((u 2), hO (g 2)), ((u 3), hO (g 3)), ((u 4), hO (g 4)), ((u 5), hO (g 5)), ((u 6), hO (g 6)), ((u 7), hO (g 7)), (k, ob 4 [.ref ar2, .int (zz ↑sz2)]), (ar2, aH E 2 (fun i => some (u2 i))), ((u2 0), hO (g2 0)), ((u2 1), hO (g2 1)), (q, ob 5 [.ref qp, .ref qc, .ref qv, .int (zz ↑ns)]), (qp, aI E 6 sp), (qc, aI E 6 sc), (qv, aI E 6 sv), (o, ob 1 [.ref p, .ref fl, .ref ln, .ref mt, .int (zz ↑fr), .int (zz (↑(Q.length)))]), (fl, hO f0), (ln, aI E 8000 lin), (mt, aI E 250 mts)]) (call_V (q0 := 0) kL_48 (c_flyOn_no E 16 x s p z a b c f k q o h hd) rfl rfl rfl rfl (by omega) (by decide) (Nat.le_of_ble_eq_true rfl) (Nat.le_of_ble_eq_true rfl) dL_law_331) hcw (perm_idx [0, 20, 1, 2, 3, 4, 5, 6, 7, 8, 9, 10, 11, 12, 13, 14, 15, 16, 17, 18, 19, 21, 22, 23, 24, 25, 26, 27, 28, 29, 30, 31, 32, 33, 34, 35, 36, 37, 38, 39, 40, 41, 42, 43, 44] 45 rfl rfl rfl) (fun v w1 hp1 => ?_)
    obtain ⟨rfl, rfl⟩ := hp1
    refine rr_aload_n 2 dL_law_334 rfl ?_
    refine rr_callG (wr := [(mP, aI E 21 pg), (mW, aI E 10 wn), (mR, aI E 12 ro), (mB, aI E 7 bg), (mA, aI E 56 was), (mK, aI E 14 kp), (mE, aI E 18 sn), (mT, aI E 200 tx2), (mD, aI E 4 mtd), (nP, aI E 21 rpg), (nW, aI E 10 rwn), (nR, aI E 12 rro), (nB, aI E 7 rbg), (mO, aI E 7 rw), (mQ, aI E 49 rs), (mX, aI E 7 ot)]) (call_V (q0 := 0) kL_51 (c_MflyOn_no E 16 m mP mW mR mB mS mA mK mE mT mD nP nW nR nB mN mO mQ mX np nr sz sz2 ns len mat rp rr dp pg wn ro nw st kd lf qt wd rx ry h epl hp ero hr est ho hv hd) rfl rfl rfl rfl (by omega) (by decide) (Nat.le_of_ble_eq_true rfl) (Nat.le_of_ble_eq_true rfl) dL_law_335) hmw (perm_idx [0, 15, 5, 1, 2, 3, 4, 6, 7, 8, 9, 10, 11, 12, 13, 14, 16, 17, 18] 19 rfl rfl rfl) (fun v2 w2 hp2 => ?_)
    obtain ⟨rfl, nw2, rfl⟩ := hp2
    refine RR.eq (st2 := [Value.int _, Value.int _]) rfl rfl rfl rfl ?_
    refine rr_eqT 797 dL_law_338 (by decide) rfl ?_
    refine K _ (INV_mk E x m len tx np kd lf qt wd nr rx ry sh h sz g sz2 g2 ns sp sc sv tx2 pg wn ro bg st was kp sn hlen hp hr hsh hs4 hs6 hnp ho hv hsz hg hsz2 hg2 hso etx epl ero ebg est ewa ekp esn ?_ ?_)
    · exact ⟨s, p, z, a, b, c, f, k, q, o, sg, nm, at_, t, pK, pL, pQ, pW, pX, pY, pS, zK, zL, zQ, zW, zX, zY, zS, np0, nr0, kd0, lf0, qt0, wd0, rx0, ry0, sh0, g0, g00, ar, ar2, u, u2, qp, qc, qv, fl, ln, mt, fr, Q, f0, lin, mts, hnm, h04, h06, perm_idx [0, 2, 3, 4, 5, 6, 7, 8, 9, 10, 11, 12, 13, 14, 15, 16, 17, 18, 19, 20, 1, 21, 22, 23, 24, 25, 26, 27, 28, 29, 30, 31, 32, 33, 34, 35, 36, 37, 38, 39, 40, 41, 42, 43, 44] 45 rfl rfl rfl⟩
    · exact ⟨mP, mW, mR, mB, mS, mA, mK, mE, mT, mD, nP, nW, nR, nB, mN, mO, mQ, mX, mat, mtd, rp, rr, rpg, rwn, rro, rbg, nw2, rw, rs, dp, ot, hnmM, perm_idx [0, 3, 4, 5, 6, 2, 7, 8, 9, 10, 11, 12, 13, 14, 15, 1, 16, 17, 18] 19 rfl rfl rfl⟩
  · skip
    refine rr_aload_n 1 dL_law_330 rfl ?_
    refine rr_callF (wr := [(s, ob 3 [.ref sg, .ref nm, .int (zz ↑len), .int (zz ↑at_)]), (sg, aC E 200 tx), (nm, aI E 4 t), (pK, aI E 7 kd), (pL, aI E 7 lf), (pQ, aI E 7 qt), (pX, aI E 6 rx), (pY, aI E 6 ry), (pS, hO sh), (z, ob 2 [.ref zK, .ref zL, .ref zQ, .ref zW, .ref zX, .ref zY, .ref zS, .int (zz ↑np0), .int (zz ↑nr0)]), (zK, aI E 7 kd0), (zL, aI E 7 lf0), (zQ, aI E 7 qt0), (zW, aI E 10 wd0), (zX, aI E 6 rx0), (zY, aI E 6 ry0), (zS, hO sh0), (b, hO g0), (c, hO g00), (k, ob 4 [.ref ar2, .int (zz ↑sz2)]), (ar2, aH E 2 (fun i => some (u2 i))), ((u2 0), hO (g2 0)), ((u2 1), hO (g2 1)), (q, ob 5 [.ref qp, .ref qc, .ref qv, .int (zz ↑ns)]), (qp, aI E 6 sp), (qc, aI E 6 sc), (qv, aI E 6 sv), (o, ob 1 [.ref p, .ref fl, .ref ln, .ref mt, .int (zz ↑fr), .int (zz (↑(Q.length)))]), (fl, hO f0), (ln, aI E 8000 lin), (mt, aI E 250 mts)]) (call_V (q0 := 0) kL_48 (c_flyOn_y E 16 x s p z a b c f k q o pK pL pQ pW pX pY pS np nr kd lf qt wd h hp ho ar u g sz hsz hd) rfl rfl rfl rfl (by omega) (by decide) (Nat.le_of_ble_eq_true rfl) (Nat.le_of_ble_eq_true rfl) dL_law_331) hcw (perm_idx [0, 4, 8, 23, 24, 25, 26, 27, 28, 29, 30, 31, 32, 20, 1, 2, 3, 5, 6, 7, 9, 10, 11, 12, 13, 14, 15, 16, 17, 18, 19, 21, 22, 33, 34, 35, 36, 37, 38, 39, 40, 41, 42, 43, 44] 45 rfl rfl rfl) (fun v w1 hp1 => ?_)
    obtain ⟨rfl, u3, rfl⟩ := hp1
    refine rr_aload_n 2 dL_law_334 rfl ?_
    refine rr_callG (wr := [(mP, aI E 21 pg), (mR, aI E 12 ro), (mB, aI E 7 bg), (mK, aI E 14 kp), (mE, aI E 18 sn), (mT, aI E 200 tx2), (mD, aI E 4 mtd), (nP, aI E 21 rpg), (nW, aI E 10 rwn), (nR, aI E 12 rro), (nB, aI E 7 rbg), (mO, aI E 7 rw), (mQ, aI E 49 rs), (mX, aI E 7 ot)]) (call_V (q0 := 0) kL_51 (c_MflyOn_y E 16 m mP mW mR mB mS mA mK mE mT mD nP nW nR nB mN mO mQ mX np nr sz sz2 ns len mat rp rr dp pg wn ro nw st kd lf qt wd rx ry h epl hp ero hr est ho hv was hsz hd) rfl rfl rfl rfl (by omega) (by decide) (Nat.le_of_ble_eq_true rfl) (Nat.le_of_ble_eq_true rfl) dL_law_335) hmw (perm_idx [0, 2, 15, 5, 6, 1, 3, 4, 7, 8, 9, 10, 11, 12, 13, 14, 16, 17, 18] 19 rfl rfl rfl) (fun v2 w2 hp2 => ?_)
    obtain ⟨rfl, nw2, st2, ha2, rfl⟩ := hp2
    refine RR.eq (st2 := [Value.int _, Value.int _]) rfl rfl rfl rfl ?_
    refine rr_eqT 797 dL_law_338 (by decide) rfl ?_
    refine K _ (INV_mk E x m len tx np kd lf qt wd nr rx ry sh (glF wd h) (putN sz) (putG g sz h) sz2 g2 ns sp sc sv tx2 pg wn ro bg st2 (rmM was sz st) kp sn hlen hp hr hsh hs4 hs6 hnp (glF_ok ho) glF_hV ((putN_le hsz).1) (putG_all (Q := fun h => hOK h ∧ hV np h) hsz hg ⟨ho, hv⟩) hsz2 hg2 hso etx epl ero ebg ha2 (rm_rel hsz ewa est) ekp esn ?_ ?_)
    · exact ⟨s, p, z, a, b, c, f, k, q, o, sg, nm, at_, t, pK, pL, pQ, pW, pX, pY, pS, zK, zL, zQ, zW, zX, zY, zS, np0, nr0, kd0, lf0, qt0, wd0, rx0, ry0, sh0, g0, g00, ar, ar2, u3, u2, qp, qc, qv, fl, ln, mt, fr, Q, f0, lin, mts, hnm, h04, h06, perm_idx [0, 14, 15, 16, 1, 17, 18, 19, 2, 20, 21, 22, 23, 24, 25, 26, 27, 28, 29, 30, 13, 31, 32, 3, 4, 5, 6, 7, 8, 9, 10, 11, 12, 33, 34, 35, 36, 37, 38, 39, 40, 41, 42, 43, 44] 45 rfl rfl rfl⟩
    · exact ⟨mP, mW, mR, mB, mS, mA, mK, mE, mT, mD, nP, nW, nR, nB, mN, mO, mQ, mX, mat, mtd, rp, rr, rpg, rwn, rro, rbg, nw2, rw, rs, dp, ot, hnmM, perm_idx [0, 5, 1, 6, 7, 3, 4, 8, 9, 10, 11, 12, 13, 14, 15, 2, 16, 17, 18] 19 rfl rfl rfl⟩
