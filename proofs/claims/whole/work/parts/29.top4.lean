set_option maxRecDepth 100000 in
set_option maxHeartbeats 1000000 in
theorem c_drawnPeg (E : Ev) (d : Nat) (x s p z a b c f k q o : Nat) (pK pL pQ pW pX pY pS : Nat) (np nr : Nat) (zn t : Nat) (hn : 1 ≤ np ∧ np ≤ 7) (hz : zn ≤ 9999) (ht : t ≤ 39) : SP E mX6_drawnPeg (d + 0) 0 0 [.ref x, .int (zz ↑zn), .int (zz ↑t)] [(x, ob 6 [.ref s, .ref p, .ref z, .ref a, .ref b, .ref c, .ref f, .ref k, .ref q, .ref o]), (p, ob 2 [.ref pK, .ref pL, .ref pQ, .ref pW, .ref pX, .ref pY, .ref pS, .int (zz ↑np), .int (zz ↑nr)])] (FP (some (.int (zz (↑(drw zn t np))))) [(x, ob 6 [.ref s, .ref p, .ref z, .ref a, .ref b, .ref c, .ref f, .ref k, .ref q, .ref o]), (p, ob 2 [.ref pK, .ref pL, .ref pQ, .ref pW, .ref pX, .ref pY, .ref pS, .int (zz ↑np), .int (zz ↑nr)])]) := by
  show RR E mX6_drawnPeg (d + 0) 0 0 0 [(0, .ref x), (1, .int (zz ↑zn)), (2, .int (zz ↑t))] [] [(x, ob 6 [.ref s, .ref p, .ref z, .ref a, .ref b, .ref c, .ref f, .ref k, .ref q, .ref o]), (p, ob 2 [.ref pK, .ref pL, .ref pQ, .ref pW, .ref pX, .ref pY, .ref pS, .int (zz ↑np), .int (zz ↑nr)])] (FP (some (.int (zz (↑(drw zn t np))))) [(x, ob 6 [.ref s, .ref p, .ref z, .ref a, .ref b, .ref c, .ref f, .ref k, .ref q, .ref o]), (p, ob 2 [.ref pK, .ref pL, .ref pQ, .ref pW, .ref pX, .ref pY, .ref pS, .int (zz ↑np), .int (zz ↑nr)])])
  have hsq := sq_rg (x := ((7919 * (zn : Int)) + (6151 * (t : Int))) + 1) (by omega)
  have hm1 := Int.emod_nonneg (((7919 * (zn : Int)) + (6151 * (t : Int)) + 1) * ((7919 * (zn : Int)) + (6151 * (t : Int)) + 1) % 65521 / 8) (show (np : Int) ≠ 0 by omega)
  have hm2 := Int.emod_lt_of_pos (((7919 * (zn : Int)) + (6151 * (t : Int)) + 1) * ((7919 * (zn : Int)) + (6151 * (t : Int)) + 1) % 65521 / 8) (show 0 < (np : Int) by omega)
  refine rr_aload_n 0 dX6_drawnPeg_0 rfl ?_
  refine rr_get fX6_19 0 rfl rfl dX6_drawnPeg_1 ?_
  refine rr_get fX6_97 1 rfl rfl dX6_drawnPeg_4 ?_
  refine rr_iconst dX6_drawnPeg_7 ?_
  refine rr_icmp_ge 13 dX6_drawnPeg_8 (by decide) (by omega) (by omega) (fun c_1 => ?_) (fun c_1 => ?_)
  · skip
    refine rr_lcon (z := 7919) dX6_drawnPeg_13 clX6_239 rfl ?_
    refine rr_iload_n 1 dX6_drawnPeg_16 rfl ?_
    refine rr_i2l dX6_drawnPeg_17 (by omega) ?_
    refine rr_lmul dX6_drawnPeg_18 ?_
    refine rr_lcon (z := 6151) dX6_drawnPeg_19 clX6_241 rfl ?_
    refine rr_iload_n 2 dX6_drawnPeg_22 rfl ?_
    refine rr_i2l dX6_drawnPeg_23 (by omega) ?_
    refine rr_lmul dX6_drawnPeg_24 ?_
    refine rr_ladd dX6_drawnPeg_25 ?_
    refine rr_lconst (v := ll 1) dX6_drawnPeg_26 rfl ?_
    refine rr_ladd dX6_drawnPeg_27 ?_
    refine rr_lstore_n (lv2 := [(0, .ref x), (1, .int (zz ↑zn)), (2, .int (zz ↑t)), (3, .long (ll (((7919 * ↑zn) + (6151 * ↑t)) + 1)))]) dX6_drawnPeg_28 (by decide) rfl ?_
    refine rr_lload_n 3 dX6_drawnPeg_29 rfl ?_
    refine rr_lload_n 3 dX6_drawnPeg_30 rfl ?_
    refine rr_lmul dX6_drawnPeg_31 ?_
    refine rr_lcon (z := 65521) dX6_drawnPeg_32 clX6_243 rfl ?_
    refine rr_lrem dX6_drawnPeg_35 (by omega) (by omega) ?_
    refine rr_lcon (z := 8) dX6_drawnPeg_36 clX6_245 rfl ?_
    refine rr_ldiv dX6_drawnPeg_39 (by omega) (by omega) ?_
    refine rr_lstore (lv2 := [(0, .ref x), (1, .int (zz ↑zn)), (2, .int (zz ↑t)), (3, .long (ll (((7919 * ↑zn) + (6151 * ↑t)) + 1))), (5, .long (ll ((((((7919 * ↑zn) + (6151 * ↑t)) + 1) * (((7919 * ↑zn) + (6151 * ↑t)) + 1)) % 65521) / 8)))]) dX6_drawnPeg_40 (by decide) rfl ?_
    refine rr_lload 4 dX6_drawnPeg_42 rfl ?_
    refine rr_aload_n 0 dX6_drawnPeg_44 rfl ?_
    refine rr_get fX6_19 0 rfl rfl dX6_drawnPeg_45 ?_
    refine rr_get fX6_97 1 rfl rfl dX6_drawnPeg_48 ?_
    refine rr_i2l dX6_drawnPeg_51 (by omega) ?_
    refine rr_lrem dX6_drawnPeg_52 (by omega) (by omega) ?_
    refine rr_l2i dX6_drawnPeg_53 (by omega) ?_
    exact rr_iret dX6_drawnPeg_54 rfl rfl ⟨congrArg (fun z => some (Value.int (zz z))) (by unfold drw; simp only [Int.natCast_emod, Int.natCast_ediv, Int.natCast_mul, Int.natCast_add]; rfl), rfl⟩
  · skip
    exfalso; omega
set_option maxRecDepth 100000 in
set_option maxHeartbeats 1000000 in
theorem c_may_bad (E : Ev) (d : Nat) (x s p z a b c f k q o : Nat) (pK pL pQ pW pX pY pS : Nat) (np nr : Nat) (y w : Int) (gy : -2147483648 ≤ y ∧ y < 2147483648) (gw : -2147483648 ≤ w ∧ w < 2147483648) (hn : np ≤ 7) (hc : ¬ ((0 ≤ y ∧ y < (np : Int)) ∧ 0 ≤ w ∧ w ≤ 1)) : SP E mX6_may (d + 2) 0 0 [.ref x, .int (zz y), .int (zz w)] [(x, ob 6 [.ref s, .ref p, .ref z, .ref a, .ref b, .ref c, .ref f, .ref k, .ref q, .ref o]), (p, ob 2 [.ref pK, .ref pL, .ref pQ, .ref pW, .ref pX, .ref pY, .ref pS, .int (zz ↑np), .int (zz ↑nr)])] (FP (some (.int (zz (-1)))) [(x, ob 6 [.ref s, .ref p, .ref z, .ref a, .ref b, .ref c, .ref f, .ref k, .ref q, .ref o]), (p, ob 2 [.ref pK, .ref pL, .ref pQ, .ref pW, .ref pX, .ref pY, .ref pS, .int (zz ↑np), .int (zz ↑nr)])]) := by
  show RR E mX6_may (d + 2) 0 0 0 [(0, .ref x), (1, .int (zz y)), (2, .int (zz w))] [] [(x, ob 6 [.ref s, .ref p, .ref z, .ref a, .ref b, .ref c, .ref f, .ref k, .ref q, .ref o]), (p, ob 2 [.ref pK, .ref pL, .ref pQ, .ref pW, .ref pX, .ref pY, .ref pS, .int (zz ↑np), .int (zz ↑nr)])] (FP (some (.int (zz (-1)))) [(x, ob 6 [.ref s, .ref p, .ref z, .ref a, .ref b, .ref c, .ref f, .ref k, .ref q, .ref o]), (p, ob 2 [.ref pK, .ref pL, .ref pQ, .ref pW, .ref pX, .ref pY, .ref pS, .int (zz ↑np), .int (zz ↑nr)])])
  refine rr_aload_n 0 dX6_may_0 rfl ?_
  refine rr_get fX6_19 0 rfl rfl dX6_may_1 ?_
  refine rr_iload_n 1 dX6_may_4 rfl ?_
  refine rr_callFi (ws2 := [(x, ob 6 [.ref s, .ref p, .ref z, .ref a, .ref b, .ref c, .ref f, .ref k, .ref q, .ref o]), (p, ob 2 [.ref pK, .ref pL, .ref pQ, .ref pW, .ref pX, .ref pY, .ref pS, .int (zz ↑np), .int (zz ↑nr)])]) (wr := [(x, ob 6 [.ref s, .ref p, .ref z, .ref a, .ref b, .ref c, .ref f, .ref k, .ref q, .ref o])]) (call_V (q0 := 0) kX6_104 (c_hasPeg E (d + 1) p pK pL pQ pW pX pY pS np nr y (by omega) (by omega)) rfl rfl rfl rfl (by omega) (by decide) (Nat.le_of_ble_eq_true rfl) (Nat.le_of_ble_eq_true rfl) dX6_may_5) [1] [0] [0, 1] rfl rfl rfl rfl rfl rfl rfl ?_
  refine rr_if_eqD 20 dX6_may_8 (by decide) (fun c_1 => ?_) (fun c_1 => ?_)
  · skip
    refine rr_iconst dX6_may_20 ?_
    exact rr_iret dX6_may_21 rfl rfl ⟨rfl, rfl⟩
  · skip
    refine rr_iload_n 2 dX6_may_11 rfl ?_
    refine rr_if_lt 20 dX6_may_12 (by decide) (by omega) (fun c_2 => ?_) (fun c_2 => ?_)
    · skip
      refine rr_iconst dX6_may_20 ?_
      exact rr_iret dX6_may_21 rfl rfl ⟨rfl, rfl⟩
    · skip
      refine rr_iload_n 2 dX6_may_15 rfl ?_
      refine rr_iconst dX6_may_16 ?_
      refine rr_icmp_le 22 dX6_may_17 (by decide) (by omega) (by omega) (fun c_3 => ?_) (fun c_3 => ?_)
      · skip
        exfalso; omega
      · skip
        refine rr_iconst dX6_may_20 ?_
        exact rr_iret dX6_may_21 rfl rfl ⟨rfl, rfl⟩
set_option maxRecDepth 100000 in
set_option maxHeartbeats 1000000 in
theorem c_may_0 (E : Ev) (d : Nat) (x s p z a b c f k q o : Nat) (pK pL pQ pW pX pY pS : Nat) (np nr : Nat) (qp qc qv ns : Nat) (sp sc sv : Nat → Int) (kd lf qt wd : Nat → Int) (hp : pOK np kd lf qt wd) (hs : sOK ns sp sc sv) (i0 : Nat) (hi0 : i0 < np) : SP E mX6_may (d + 2) 0 0 [.ref x, .int (zz ↑i0), .int (zz 0)] [(x, ob 6 [.ref s, .ref p, .ref z, .ref a, .ref b, .ref c, .ref f, .ref k, .ref q, .ref o]), (p, ob 2 [.ref pK, .ref pL, .ref pQ, .ref pW, .ref pX, .ref pY, .ref pS, .int (zz ↑np), .int (zz ↑nr)]), (pK, aI E 7 kd), (pL, aI E 7 lf), (q, ob 5 [.ref qp, .ref qc, .ref qv, .int (zz ↑ns)]), (qp, aI E 6 sp), (qc, aI E 6 sc), (qv, aI E 6 sv)] (FP (some (.int (zz (↑(bitsTo (may0 ns sp sc sv ↑i0 (lf i0)) 4))))) [(x, ob 6 [.ref s, .ref p, .ref z, .ref a, .ref b, .ref c, .ref f, .ref k, .ref q, .ref o]), (p, ob 2 [.ref pK, .ref pL, .ref pQ, .ref pW, .ref pX, .ref pY, .ref pS, .int (zz ↑np), .int (zz ↑nr)]), (pK, aI E 7 kd), (pL, aI E 7 lf), (q, ob 5 [.ref qp, .ref qc, .ref qv, .int (zz ↑ns)]), (qp, aI E 6 sp), (qc, aI E 6 sc), (qv, aI E 6 sv)]) := by
  show RR E mX6_may (d + 2) 0 0 0 [(0, .ref x), (1, .int (zz ↑i0)), (2, .int (zz 0))] [] [(x, ob 6 [.ref s, .ref p, .ref z, .ref a, .ref b, .ref c, .ref f, .ref k, .ref q, .ref o]), (p, ob 2 [.ref pK, .ref pL, .ref pQ, .ref pW, .ref pX, .ref pY, .ref pS, .int (zz ↑np), .int (zz ↑nr)]), (pK, aI E 7 kd), (pL, aI E 7 lf), (q, ob 5 [.ref qp, .ref qc, .ref qv, .int (zz ↑ns)]), (qp, aI E 6 sp), (qc, aI E 6 sc), (qv, aI E 6 sv)] (FP (some (.int (zz (↑(bitsTo (may0 ns sp sc sv ↑i0 (lf i0)) 4))))) [(x, ob 6 [.ref s, .ref p, .ref z, .ref a, .ref b, .ref c, .ref f, .ref k, .ref q, .ref o]), (p, ob 2 [.ref pK, .ref pL, .ref pQ, .ref pW, .ref pX, .ref pY, .ref pS, .int (zz ↑np), .int (zz ↑nr)]), (pK, aI E 7 kd), (pL, aI E 7 lf), (q, ob 5 [.ref qp, .ref qc, .ref qv, .int (zz ↑ns)]), (qp, aI E 6 sp), (qc, aI E 6 sc), (qv, aI E 6 sv)])
  have hn := hp.1
  obtain ⟨k0, u0, t0⟩ := hp.2.1 i0 hi0
  have lp : ∀ (n i : Nat) (g1 : Nat → Int), i + n = 4 → RR E mX6_may (d + 2) 0 0 27 [(0, .ref x), (1, .int (zz ↑i0)), (2, .int (zz 0)), (3, .int (zz (↑(bitsTo (may0 ns sp sc sv ↑i0 (lf i0)) i)))), (4, .int (zz ↑i))] [] [(x, ob 6 [.ref s, .ref p, .ref z, .ref a, .ref b, .ref c, .ref f, .ref k, .ref q, .ref o]), (p, ob 2 [.ref pK, .ref pL, .ref pQ, .ref pW, .ref pX, .ref pY, .ref pS, .int (zz ↑np), .int (zz ↑nr)]), (pK, aI E 7 kd), (pL, aI E 7 lf), (q, ob 5 [.ref qp, .ref qc, .ref qv, .int (zz ↑ns)]), (qp, aI E 6 sp), (qc, aI E 6 sc), (qv, aI E 6 sv)] (FP (some (.int (zz (↑(bitsTo (may0 ns sp sc sv ↑i0 (lf i0)) 4))))) [(x, ob 6 [.ref s, .ref p, .ref z, .ref a, .ref b, .ref c, .ref f, .ref k, .ref q, .ref o]), (p, ob 2 [.ref pK, .ref pL, .ref pQ, .ref pW, .ref pX, .ref pY, .ref pS, .int (zz ↑np), .int (zz ↑nr)]), (pK, aI E 7 kd), (pL, aI E 7 lf), (q, ob 5 [.ref qp, .ref qc, .ref qv, .int (zz ↑ns)]), (qp, aI E 6 sp), (qc, aI E 6 sc), (qv, aI E 6 sv)]) := by
    intro n
    induction n with
    | zero =>
      intro i g1 h1
      obtain rfl : i = 4 := by omega
      refine rr_iload 4 dX6_may_27 rfl ?_
      refine rr_iload_n 2 dX6_may_29 rfl ?_
      refine rr_if_ne 37 dX6_may_30 (by decide) (by omega) (fun c_1 => ?_) (fun c_1 => ?_)
      · skip
        exfalso; omega
      · skip
        refine rr_iconst dX6_may_33 ?_
        refine rr_goto 39 dX6_may_34 (by decide) ?_
        refine rr_icmp_ge 110 dX6_may_39 (by decide) (by omega) (by omega) (fun c_2 => ?_) (fun c_2 => ?_)
        · skip
          refine rr_iload_n 3 dX6_may_110 rfl ?_
          exact rr_iret dX6_may_111 rfl rfl ⟨rfl, rfl⟩
        · skip
          exfalso; omega
    | succ n ih =>
      intro i g1 h1
      have hi : i < 4 := by omega
      refine rr_iload 4 dX6_may_27 rfl ?_
      refine rr_iload_n 2 dX6_may_29 rfl ?_
      refine rr_if_ne 37 dX6_may_30 (by decide) (by omega) (fun c_3 => ?_) (fun c_3 => ?_)
      · skip
        exfalso; omega
      · skip
        refine rr_iconst dX6_may_33 ?_
        refine rr_goto 39 dX6_may_34 (by decide) ?_
        refine rr_icmp_ge 110 dX6_may_39 (by decide) (by omega) (by omega) (fun c_4 => ?_) (fun c_4 => ?_)
        · skip
          exfalso; omega
        · skip
          refine rr_iload_n 2 dX6_may_42 rfl ?_
          refine rr_if_ne 51 dX6_may_43 (by decide) (by omega) (fun c_5 => ?_) (fun c_5 => ?_)
          · skip
            exfalso; omega
          · skip
            refine rr_iload 4 dX6_may_46 rfl ?_
            refine rr_goto 60 dX6_may_48 (by decide) ?_
            refine rr_istore (lv2 := [(0, .ref x), (1, .int (zz ↑i0)), (2, .int (zz 0)), (3, .int (zz (↑(bitsTo (may0 ns sp sc sv ↑i0 (lf i0)) i)))), (4, .int (zz ↑i)), (5, .int (zz ↑i))]) dX6_may_60 (by decide) rfl ?_
            refine rr_iload_n 2 dX6_may_62 rfl ?_
            refine rr_if_ne 78 dX6_may_63 (by decide) (by omega) (fun c_6 => ?_) (fun c_6 => ?_)
            · skip
              exfalso; omega
            · skip
              refine rr_aload_n 0 dX6_may_66 rfl ?_
              refine rr_get fX6_19 0 rfl rfl dX6_may_67 ?_
              refine rr_get fX6_112 1 rfl rfl dX6_may_70 ?_
              refine rr_iload_n 1 dX6_may_73 rfl ?_
              refine rr_iald 3 i0 rfl rfl (by omega) (by omega) dX6_may_74 ?_
              refine rr_goto 80 dX6_may_75 (by decide) ?_
              refine rr_istore (lv2 := [(0, .ref x), (1, .int (zz ↑i0)), (2, .int (zz 0)), (3, .int (zz (↑(bitsTo (may0 ns sp sc sv ↑i0 (lf i0)) i)))), (4, .int (zz ↑i)), (5, .int (zz ↑i)), (6, .int (zz (lf i0)))]) dX6_may_80 (by decide) rfl ?_
              refine rr_aload_n 0 dX6_may_82 rfl ?_
              refine rr_get fX6_54 0 rfl rfl dX6_may_83 ?_
              refine rr_iload_n 1 dX6_may_86 rfl ?_
              refine rr_iload 5 dX6_may_87 rfl ?_
              refine rr_iload 6 dX6_may_89 rfl ?_
              refine rr_callFi (ws2 := [(x, ob 6 [.ref s, .ref p, .ref z, .ref a, .ref b, .ref c, .ref f, .ref k, .ref q, .ref o]), (p, ob 2 [.ref pK, .ref pL, .ref pQ, .ref pW, .ref pX, .ref pY, .ref pS, .int (zz ↑np), .int (zz ↑nr)]), (pK, aI E 7 kd), (pL, aI E 7 lf), (q, ob 5 [.ref qp, .ref qc, .ref qv, .int (zz ↑ns)]), (qp, aI E 6 sp), (qc, aI E 6 sc), (qv, aI E 6 sv)]) (wr := [(x, ob 6 [.ref s, .ref p, .ref z, .ref a, .ref b, .ref c, .ref f, .ref k, .ref q, .ref o]), (p, ob 2 [.ref pK, .ref pL, .ref pQ, .ref pW, .ref pX, .ref pY, .ref pS, .int (zz ↑np), .int (zz ↑nr)]), (pK, aI E 7 kd), (pL, aI E 7 lf)]) (call_V (q0 := 0) kX6_213 (c_allow E (d + 0) q qp qc qv ns sp sc sv ↑i0 ↑i (lf i0) hs (by omega) (by omega) (by omega)) rfl rfl rfl rfl (by omega) (by decide) (Nat.le_of_ble_eq_true rfl) (Nat.le_of_ble_eq_true rfl) dX6_may_91) [4, 5, 6, 7] [0, 1, 2, 3] [0, 1, 2, 3, 4, 5, 6, 7] rfl rfl rfl rfl rfl rfl rfl ?_
              refine rr_if_eqB 104 dX6_may_94 (by decide) (fun hal => ?_) (fun hal => ?_)
              · skip
                refine rr_iinc (lv2 := [(0, .ref x), (1, .int (zz ↑i0)), (2, .int (zz 0)), (3, .int (zz (↑(bitsTo (may0 ns sp sc sv ↑i0 (lf i0)) i)))), (4, .int (zz (↑(i + 1)))), (5, .int (zz ↑i)), (6, .int (zz (lf i0)))]) 4 dX6_may_104 rfl (by decide) rfl ?_
                refine rr_goto 27 dX6_may_107 (by decide) ?_
                refine RR.eq (lv2 := [(0, .ref x), (1, .int (zz ↑i0)), (2, .int (zz 0)), (3, .int (zz (↑(bitsTo (may0 ns sp sc sv ↑i0 (lf i0)) (i + 1))))), (4, .int (zz (↑(i + 1)))), (5, .int (zz ↑i)), (6, .int (zz (lf i0)))]) rfl (by rw [bitsTo, if_neg (by intro z; exact absurd (z.symm.trans hal) (by decide))]) rfl rfl ?_
                refine RR.lv [0, 1, 2, 3, 4] rfl ?_
                exact ih (i + 1) g1 (by omega)
              · skip
                refine rr_iload_n 3 dX6_may_97 rfl ?_
                refine rr_iconst dX6_may_98 ?_
                refine rr_iload 4 dX6_may_99 rfl ?_
                refine rr_ishl (n := 1) (k := i) dX6_may_101 (by omega) (by have := Nat.pow_le_pow_right (n := 2) (by omega) (show i ≤ 9 by omega); omega) ?_
                refine rr_top (b := ((2 ^ i : Nat) : Int)) (by rw [Nat.one_mul]) ?_
                refine rr_ior (a := bitsTo (may0 ns sp sc sv ↑i0 (lf i0)) i) (b := 2 ^ i) dX6_may_102 ?_
                refine rr_top (b := ↑(bitsTo (may0 ns sp sc sv ↑i0 (lf i0)) (i + 1))) (by rw [bitsTo, if_pos (by exact hal)]) ?_
                refine rr_istore_n (lv2 := [(0, .ref x), (1, .int (zz ↑i0)), (2, .int (zz 0)), (3, .int (zz (↑(bitsTo (may0 ns sp sc sv ↑i0 (lf i0)) (i + 1))))), (4, .int (zz ↑i)), (5, .int (zz ↑i)), (6, .int (zz (lf i0)))]) dX6_may_103 (by decide) rfl ?_
                refine rr_iinc (lv2 := [(0, .ref x), (1, .int (zz ↑i0)), (2, .int (zz 0)), (3, .int (zz (↑(bitsTo (may0 ns sp sc sv ↑i0 (lf i0)) (i + 1))))), (4, .int (zz (↑(i + 1)))), (5, .int (zz ↑i)), (6, .int (zz (lf i0)))]) 4 dX6_may_104 rfl (by decide) rfl ?_
                refine rr_goto 27 dX6_may_107 (by decide) ?_
                refine RR.lv [0, 1, 2, 3, 4] rfl ?_
                exact ih (i + 1) g1 (by omega)
  refine rr_aload_n 0 dX6_may_0 rfl ?_
  refine rr_get fX6_19 0 rfl rfl dX6_may_1 ?_
  refine rr_iload_n 1 dX6_may_4 rfl ?_
  refine rr_callFi (ws2 := [(x, ob 6 [.ref s, .ref p, .ref z, .ref a, .ref b, .ref c, .ref f, .ref k, .ref q, .ref o]), (p, ob 2 [.ref pK, .ref pL, .ref pQ, .ref pW, .ref pX, .ref pY, .ref pS, .int (zz ↑np), .int (zz ↑nr)]), (pK, aI E 7 kd), (pL, aI E 7 lf), (q, ob 5 [.ref qp, .ref qc, .ref qv, .int (zz ↑ns)]), (qp, aI E 6 sp), (qc, aI E 6 sc), (qv, aI E 6 sv)]) (wr := [(x, ob 6 [.ref s, .ref p, .ref z, .ref a, .ref b, .ref c, .ref f, .ref k, .ref q, .ref o]), (pK, aI E 7 kd), (pL, aI E 7 lf), (q, ob 5 [.ref qp, .ref qc, .ref qv, .int (zz ↑ns)]), (qp, aI E 6 sp), (qc, aI E 6 sc), (qv, aI E 6 sv)]) (call_V (q0 := 0) kX6_104 (c_hasPeg E (d + 1) p pK pL pQ pW pX pY pS np nr ↑i0 (by omega) (by omega)) rfl rfl rfl rfl (by omega) (by decide) (Nat.le_of_ble_eq_true rfl) (Nat.le_of_ble_eq_true rfl) dX6_may_5) [1] [0, 2, 3, 4, 5, 6, 7] [0, 7, 1, 2, 3, 4, 5, 6] rfl rfl rfl rfl rfl rfl rfl ?_
  refine rr_if_eqD 20 dX6_may_8 (by decide) (fun c_7 => ?_) (fun c_7 => ?_)
  · skip
    exfalso; omega
  · skip
    refine rr_iload_n 2 dX6_may_11 rfl ?_
    refine rr_if_lt 20 dX6_may_12 (by decide) (by omega) (fun c_8 => ?_) (fun c_8 => ?_)
    · skip
      exfalso; omega
    · skip
      refine rr_iload_n 2 dX6_may_15 rfl ?_
      refine rr_iconst dX6_may_16 ?_
      refine rr_icmp_le 22 dX6_may_17 (by decide) (by omega) (by omega) (fun c_9 => ?_) (fun c_9 => ?_)
      · skip
        refine rr_iconst dX6_may_22 ?_
        refine rr_istore_n (lv2 := [(0, .ref x), (1, .int (zz ↑i0)), (2, .int (zz 0)), (3, .int (zz 0))]) dX6_may_23 (by decide) rfl ?_
        refine rr_iconst dX6_may_24 ?_
        refine rr_istore (lv2 := [(0, .ref x), (1, .int (zz ↑i0)), (2, .int (zz 0)), (3, .int (zz 0)), (4, .int (zz 0))]) dX6_may_25 (by decide) rfl ?_
        exact lp 4 0 kd (by omega)
      · skip
        exfalso; omega
set_option maxRecDepth 100000 in
set_option maxHeartbeats 1000000 in
theorem c_may_1 (E : Ev) (d : Nat) (x s p z a b c f k q o : Nat) (pK pL pQ pW pX pY pS : Nat) (np nr : Nat) (qp qc qv ns : Nat) (sp sc sv : Nat → Int) (kd lf qt wd : Nat → Int) (hp : pOK np kd lf qt wd) (hs : sOK ns sp sc sv) (i0 : Nat) (hi0 : i0 < np) : SP E mX6_may (d + 2) 0 0 [.ref x, .int (zz ↑i0), .int (zz 1)] [(x, ob 6 [.ref s, .ref p, .ref z, .ref a, .ref b, .ref c, .ref f, .ref k, .ref q, .ref o]), (p, ob 2 [.ref pK, .ref pL, .ref pQ, .ref pW, .ref pX, .ref pY, .ref pS, .int (zz ↑np), .int (zz ↑nr)]), (pK, aI E 7 kd), (pL, aI E 7 lf), (q, ob 5 [.ref qp, .ref qc, .ref qv, .int (zz ↑ns)]), (qp, aI E 6 sp), (qc, aI E 6 sc), (qv, aI E 6 sv)] (FP (some (.int (zz (↑(bitsTo (may1 ns sp sc sv ↑i0 (kd i0)) 10))))) [(x, ob 6 [.ref s, .ref p, .ref z, .ref a, .ref b, .ref c, .ref f, .ref k, .ref q, .ref o]), (p, ob 2 [.ref pK, .ref pL, .ref pQ, .ref pW, .ref pX, .ref pY, .ref pS, .int (zz ↑np), .int (zz ↑nr)]), (pK, aI E 7 kd), (pL, aI E 7 lf), (q, ob 5 [.ref qp, .ref qc, .ref qv, .int (zz ↑ns)]), (qp, aI E 6 sp), (qc, aI E 6 sc), (qv, aI E 6 sv)]) := by
  show RR E mX6_may (d + 2) 0 0 0 [(0, .ref x), (1, .int (zz ↑i0)), (2, .int (zz 1))] [] [(x, ob 6 [.ref s, .ref p, .ref z, .ref a, .ref b, .ref c, .ref f, .ref k, .ref q, .ref o]), (p, ob 2 [.ref pK, .ref pL, .ref pQ, .ref pW, .ref pX, .ref pY, .ref pS, .int (zz ↑np), .int (zz ↑nr)]), (pK, aI E 7 kd), (pL, aI E 7 lf), (q, ob 5 [.ref qp, .ref qc, .ref qv, .int (zz ↑ns)]), (qp, aI E 6 sp), (qc, aI E 6 sc), (qv, aI E 6 sv)] (FP (some (.int (zz (↑(bitsTo (may1 ns sp sc sv ↑i0 (kd i0)) 10))))) [(x, ob 6 [.ref s, .ref p, .ref z, .ref a, .ref b, .ref c, .ref f, .ref k, .ref q, .ref o]), (p, ob 2 [.ref pK, .ref pL, .ref pQ, .ref pW, .ref pX, .ref pY, .ref pS, .int (zz ↑np), .int (zz ↑nr)]), (pK, aI E 7 kd), (pL, aI E 7 lf), (q, ob 5 [.ref qp, .ref qc, .ref qv, .int (zz ↑ns)]), (qp, aI E 6 sp), (qc, aI E 6 sc), (qv, aI E 6 sv)])
  have hn := hp.1
  obtain ⟨k0, u0, t0⟩ := hp.2.1 i0 hi0
  have lp : ∀ (n i : Nat) (g1 : Nat → Int), i + n = 10 → RR E mX6_may (d + 2) 0 0 27 [(0, .ref x), (1, .int (zz ↑i0)), (2, .int (zz 1)), (3, .int (zz (↑(bitsTo (may1 ns sp sc sv ↑i0 (kd i0)) i)))), (4, .int (zz ↑i))] [] [(x, ob 6 [.ref s, .ref p, .ref z, .ref a, .ref b, .ref c, .ref f, .ref k, .ref q, .ref o]), (p, ob 2 [.ref pK, .ref pL, .ref pQ, .ref pW, .ref pX, .ref pY, .ref pS, .int (zz ↑np), .int (zz ↑nr)]), (pK, aI E 7 kd), (pL, aI E 7 lf), (q, ob 5 [.ref qp, .ref qc, .ref qv, .int (zz ↑ns)]), (qp, aI E 6 sp), (qc, aI E 6 sc), (qv, aI E 6 sv)] (FP (some (.int (zz (↑(bitsTo (may1 ns sp sc sv ↑i0 (kd i0)) 10))))) [(x, ob 6 [.ref s, .ref p, .ref z, .ref a, .ref b, .ref c, .ref f, .ref k, .ref q, .ref o]), (p, ob 2 [.ref pK, .ref pL, .ref pQ, .ref pW, .ref pX, .ref pY, .ref pS, .int (zz ↑np), .int (zz ↑nr)]), (pK, aI E 7 kd), (pL, aI E 7 lf), (q, ob 5 [.ref qp, .ref qc, .ref qv, .int (zz ↑ns)]), (qp, aI E 6 sp), (qc, aI E 6 sc), (qv, aI E 6 sv)]) := by
    intro n
    induction n with
    | zero =>
      intro i g1 h1
      obtain rfl : i = 10 := by omega
      refine rr_iload 4 dX6_may_27 rfl ?_
      refine rr_iload_n 2 dX6_may_29 rfl ?_
      refine rr_if_ne 37 dX6_may_30 (by decide) (by omega) (fun c_1 => ?_) (fun c_1 => ?_)
      · skip
        refine rr_bipush dX6_may_37 (by decide) ?_
        refine rr_icmp_ge 110 dX6_may_39 (by decide) (by omega) (by omega) (fun c_2 => ?_) (fun c_2 => ?_)
        · skip
          refine rr_iload_n 3 dX6_may_110 rfl ?_
          exact rr_iret dX6_may_111 rfl rfl ⟨rfl, rfl⟩
        · skip
          exfalso; omega
      · skip
        exfalso; omega
    | succ n ih =>
      intro i g1 h1
      have hi : i < 10 := by omega
      refine rr_iload 4 dX6_may_27 rfl ?_
      refine rr_iload_n 2 dX6_may_29 rfl ?_
      refine rr_if_ne 37 dX6_may_30 (by decide) (by omega) (fun c_3 => ?_) (fun c_3 => ?_)
      · skip
        refine rr_bipush dX6_may_37 (by decide) ?_
        refine rr_icmp_ge 110 dX6_may_39 (by decide) (by omega) (by omega) (fun c_4 => ?_) (fun c_4 => ?_)
        · skip
          exfalso; omega
        · skip
          refine rr_iload_n 2 dX6_may_42 rfl ?_
          refine rr_if_ne 51 dX6_may_43 (by decide) (by omega) (fun c_5 => ?_) (fun c_5 => ?_)
          · skip
            refine rr_aload_n 0 dX6_may_51 rfl ?_
            refine rr_get fX6_19 0 rfl rfl dX6_may_52 ?_
            refine rr_get fX6_108 1 rfl rfl dX6_may_55 ?_
            refine rr_iload_n 1 dX6_may_58 rfl ?_
            refine rr_iald 2 i0 rfl rfl (by omega) (by omega) dX6_may_59 ?_
            refine rr_istore (lv2 := [(0, .ref x), (1, .int (zz ↑i0)), (2, .int (zz 1)), (3, .int (zz (↑(bitsTo (may1 ns sp sc sv ↑i0 (kd i0)) i)))), (4, .int (zz ↑i)), (5, .int (zz (kd i0)))]) dX6_may_60 (by decide) rfl ?_
            refine rr_iload_n 2 dX6_may_62 rfl ?_
            refine rr_if_ne 78 dX6_may_63 (by decide) (by omega) (fun c_6 => ?_) (fun c_6 => ?_)
            · skip
              refine rr_iload 4 dX6_may_78 rfl ?_
              refine rr_istore (lv2 := [(0, .ref x), (1, .int (zz ↑i0)), (2, .int (zz 1)), (3, .int (zz (↑(bitsTo (may1 ns sp sc sv ↑i0 (kd i0)) i)))), (4, .int (zz ↑i)), (5, .int (zz (kd i0))), (6, .int (zz ↑i))]) dX6_may_80 (by decide) rfl ?_
              refine rr_aload_n 0 dX6_may_82 rfl ?_
              refine rr_get fX6_54 0 rfl rfl dX6_may_83 ?_
              refine rr_iload_n 1 dX6_may_86 rfl ?_
              refine rr_iload 5 dX6_may_87 rfl ?_
              refine rr_iload 6 dX6_may_89 rfl ?_
              refine rr_callFi (ws2 := [(x, ob 6 [.ref s, .ref p, .ref z, .ref a, .ref b, .ref c, .ref f, .ref k, .ref q, .ref o]), (p, ob 2 [.ref pK, .ref pL, .ref pQ, .ref pW, .ref pX, .ref pY, .ref pS, .int (zz ↑np), .int (zz ↑nr)]), (pK, aI E 7 kd), (pL, aI E 7 lf), (q, ob 5 [.ref qp, .ref qc, .ref qv, .int (zz ↑ns)]), (qp, aI E 6 sp), (qc, aI E 6 sc), (qv, aI E 6 sv)]) (wr := [(x, ob 6 [.ref s, .ref p, .ref z, .ref a, .ref b, .ref c, .ref f, .ref k, .ref q, .ref o]), (p, ob 2 [.ref pK, .ref pL, .ref pQ, .ref pW, .ref pX, .ref pY, .ref pS, .int (zz ↑np), .int (zz ↑nr)]), (pK, aI E 7 kd), (pL, aI E 7 lf)]) (call_V (q0 := 0) kX6_213 (c_allow E (d + 0) q qp qc qv ns sp sc sv ↑i0 (kd i0) ↑i hs (by omega) (by omega) (by omega)) rfl rfl rfl rfl (by omega) (by decide) (Nat.le_of_ble_eq_true rfl) (Nat.le_of_ble_eq_true rfl) dX6_may_91) [4, 5, 6, 7] [0, 1, 2, 3] [0, 1, 2, 3, 4, 5, 6, 7] rfl rfl rfl rfl rfl rfl rfl ?_
              refine rr_if_eqB 104 dX6_may_94 (by decide) (fun hal => ?_) (fun hal => ?_)
              · skip
                refine rr_iinc (lv2 := [(0, .ref x), (1, .int (zz ↑i0)), (2, .int (zz 1)), (3, .int (zz (↑(bitsTo (may1 ns sp sc sv ↑i0 (kd i0)) i)))), (4, .int (zz (↑(i + 1)))), (5, .int (zz (kd i0))), (6, .int (zz ↑i))]) 4 dX6_may_104 rfl (by decide) rfl ?_
                refine rr_goto 27 dX6_may_107 (by decide) ?_
                refine RR.eq (lv2 := [(0, .ref x), (1, .int (zz ↑i0)), (2, .int (zz 1)), (3, .int (zz (↑(bitsTo (may1 ns sp sc sv ↑i0 (kd i0)) (i + 1))))), (4, .int (zz (↑(i + 1)))), (5, .int (zz (kd i0))), (6, .int (zz ↑i))]) rfl (by rw [bitsTo, if_neg (by intro z; exact absurd (z.symm.trans hal) (by decide))]) rfl rfl ?_
                refine RR.lv [0, 1, 2, 3, 4] rfl ?_
                exact ih (i + 1) g1 (by omega)
              · skip
                refine rr_iload_n 3 dX6_may_97 rfl ?_
                refine rr_iconst dX6_may_98 ?_
                refine rr_iload 4 dX6_may_99 rfl ?_
                refine rr_ishl (n := 1) (k := i) dX6_may_101 (by omega) (by have := Nat.pow_le_pow_right (n := 2) (by omega) (show i ≤ 9 by omega); omega) ?_
                refine rr_top (b := ((2 ^ i : Nat) : Int)) (by rw [Nat.one_mul]) ?_
                refine rr_ior (a := bitsTo (may1 ns sp sc sv ↑i0 (kd i0)) i) (b := 2 ^ i) dX6_may_102 ?_
                refine rr_top (b := ↑(bitsTo (may1 ns sp sc sv ↑i0 (kd i0)) (i + 1))) (by rw [bitsTo, if_pos (by exact hal)]) ?_
                refine rr_istore_n (lv2 := [(0, .ref x), (1, .int (zz ↑i0)), (2, .int (zz 1)), (3, .int (zz (↑(bitsTo (may1 ns sp sc sv ↑i0 (kd i0)) (i + 1))))), (4, .int (zz ↑i)), (5, .int (zz (kd i0))), (6, .int (zz ↑i))]) dX6_may_103 (by decide) rfl ?_
                refine rr_iinc (lv2 := [(0, .ref x), (1, .int (zz ↑i0)), (2, .int (zz 1)), (3, .int (zz (↑(bitsTo (may1 ns sp sc sv ↑i0 (kd i0)) (i + 1))))), (4, .int (zz (↑(i + 1)))), (5, .int (zz (kd i0))), (6, .int (zz ↑i))]) 4 dX6_may_104 rfl (by decide) rfl ?_
                refine rr_goto 27 dX6_may_107 (by decide) ?_
                refine RR.lv [0, 1, 2, 3, 4] rfl ?_
                exact ih (i + 1) g1 (by omega)
            · skip
              exfalso; omega
          · skip
            exfalso; omega
      · skip
        exfalso; omega
  refine rr_aload_n 0 dX6_may_0 rfl ?_
  refine rr_get fX6_19 0 rfl rfl dX6_may_1 ?_
  refine rr_iload_n 1 dX6_may_4 rfl ?_
  refine rr_callFi (ws2 := [(x, ob 6 [.ref s, .ref p, .ref z, .ref a, .ref b, .ref c, .ref f, .ref k, .ref q, .ref o]), (p, ob 2 [.ref pK, .ref pL, .ref pQ, .ref pW, .ref pX, .ref pY, .ref pS, .int (zz ↑np), .int (zz ↑nr)]), (pK, aI E 7 kd), (pL, aI E 7 lf), (q, ob 5 [.ref qp, .ref qc, .ref qv, .int (zz ↑ns)]), (qp, aI E 6 sp), (qc, aI E 6 sc), (qv, aI E 6 sv)]) (wr := [(x, ob 6 [.ref s, .ref p, .ref z, .ref a, .ref b, .ref c, .ref f, .ref k, .ref q, .ref o]), (pK, aI E 7 kd), (pL, aI E 7 lf), (q, ob 5 [.ref qp, .ref qc, .ref qv, .int (zz ↑ns)]), (qp, aI E 6 sp), (qc, aI E 6 sc), (qv, aI E 6 sv)]) (call_V (q0 := 0) kX6_104 (c_hasPeg E (d + 1) p pK pL pQ pW pX pY pS np nr ↑i0 (by omega) (by omega)) rfl rfl rfl rfl (by omega) (by decide) (Nat.le_of_ble_eq_true rfl) (Nat.le_of_ble_eq_true rfl) dX6_may_5) [1] [0, 2, 3, 4, 5, 6, 7] [0, 7, 1, 2, 3, 4, 5, 6] rfl rfl rfl rfl rfl rfl rfl ?_
  refine rr_if_eqD 20 dX6_may_8 (by decide) (fun c_7 => ?_) (fun c_7 => ?_)
  · skip
    exfalso; omega
  · skip
    refine rr_iload_n 2 dX6_may_11 rfl ?_
    refine rr_if_lt 20 dX6_may_12 (by decide) (by omega) (fun c_8 => ?_) (fun c_8 => ?_)
    · skip
      exfalso; omega
    · skip
      refine rr_iload_n 2 dX6_may_15 rfl ?_
      refine rr_iconst dX6_may_16 ?_
      refine rr_icmp_le 22 dX6_may_17 (by decide) (by omega) (by omega) (fun c_9 => ?_) (fun c_9 => ?_)
      · skip
        refine rr_iconst dX6_may_22 ?_
        refine rr_istore_n (lv2 := [(0, .ref x), (1, .int (zz ↑i0)), (2, .int (zz 1)), (3, .int (zz 0))]) dX6_may_23 (by decide) rfl ?_
        refine rr_iconst dX6_may_24 ?_
        refine rr_istore (lv2 := [(0, .ref x), (1, .int (zz ↑i0)), (2, .int (zz 1)), (3, .int (zz 0)), (4, .int (zz 0))]) dX6_may_25 (by decide) rfl ?_
        exact lp 10 0 kd (by omega)
      · skip
        exfalso; omega
set_option maxRecDepth 100000 in
set_option maxHeartbeats 1000000 in
theorem c_drift_bad (E : Ev) (d : Nat) (x s p z a b c f k q o : Nat) (y : Int) (gy : -2147483648 ≤ y ∧ y < 2147483648) (hy : ¬ (1 ≤ y ∧ y ≤ 20)) : SP E mX6_drift (d + 3) 0 0 [.ref x, .int (zz y)] [(x, ob 6 [.ref s, .ref p, .ref z, .ref a, .ref b, .ref c, .ref f, .ref k, .ref q, .ref o])] (FP (some (.int (zz (-1)))) [(x, ob 6 [.ref s, .ref p, .ref z, .ref a, .ref b, .ref c, .ref f, .ref k, .ref q, .ref o])]) := by
  show RR E mX6_drift (d + 3) 0 0 0 [(0, .ref x), (1, .int (zz y))] [] [(x, ob 6 [.ref s, .ref p, .ref z, .ref a, .ref b, .ref c, .ref f, .ref k, .ref q, .ref o])] (FP (some (.int (zz (-1)))) [(x, ob 6 [.ref s, .ref p, .ref z, .ref a, .ref b, .ref c, .ref f, .ref k, .ref q, .ref o])])
  refine rr_iload_n 1 dX6_drift_0 rfl ?_
  refine rr_iconst dX6_drift_1 ?_
  refine rr_icmp_lt 11 dX6_drift_2 (by decide) (by omega) (by omega) (fun c_1 => ?_) (fun c_1 => ?_)
  · skip
    refine rr_iconst dX6_drift_11 ?_
    exact rr_iret dX6_drift_12 rfl rfl ⟨rfl, rfl⟩
  · skip
    refine rr_iload_n 1 dX6_drift_5 rfl ?_
    refine rr_bipush dX6_drift_6 (by decide) ?_
    refine rr_icmp_le 13 dX6_drift_8 (by decide) (by omega) (by omega) (fun c_2 => ?_) (fun c_2 => ?_)
    · skip
      exfalso; omega
    · skip
      refine rr_iconst dX6_drift_11 ?_
      exact rr_iret dX6_drift_12 rfl rfl ⟨rfl, rfl⟩
set_option maxRecDepth 100000 in
set_option maxHeartbeats 1000000 in
theorem c_drift_no (E : Ev) (d : Nat) (x s p z a b c f k q o : Nat) (h : Nat → Int) (y : Int) (hy : 1 ≤ y ∧ y ≤ 20) (hd : h 2 = 0) : SP E mX6_drift (d + 3) 0 0 [.ref x, .int (zz y)] [(x, ob 6 [.ref s, .ref p, .ref z, .ref a, .ref b, .ref c, .ref f, .ref k, .ref q, .ref o]), (a, hO h)] (FP (some (.int (zz (-2)))) [(x, ob 6 [.ref s, .ref p, .ref z, .ref a, .ref b, .ref c, .ref f, .ref k, .ref q, .ref o]), (a, hO h)]) := by
  show RR E mX6_drift (d + 3) 0 0 0 [(0, .ref x), (1, .int (zz y))] [] [(x, ob 6 [.ref s, .ref p, .ref z, .ref a, .ref b, .ref c, .ref f, .ref k, .ref q, .ref o]), (a, hO h)] (FP (some (.int (zz (-2)))) [(x, ob 6 [.ref s, .ref p, .ref z, .ref a, .ref b, .ref c, .ref f, .ref k, .ref q, .ref o]), (a, hO h)])
  refine rr_iload_n 1 dX6_drift_0 rfl ?_
  refine rr_iconst dX6_drift_1 ?_
  refine rr_icmp_lt 11 dX6_drift_2 (by decide) (by omega) (by omega) (fun c_1 => ?_) (fun c_1 => ?_)
  · skip
    exfalso; omega
  · skip
    refine rr_iload_n 1 dX6_drift_5 rfl ?_
    refine rr_bipush dX6_drift_6 (by decide) ?_
    refine rr_icmp_le 13 dX6_drift_8 (by decide) (by omega) (by omega) (fun c_2 => ?_) (fun c_2 => ?_)
    · skip
      refine rr_aload_n 0 dX6_drift_13 rfl ?_
      refine rr_get fX6_29 0 rfl rfl dX6_drift_14 ?_
      refine rr_callFi (ws2 := [(x, ob 6 [.ref s, .ref p, .ref z, .ref a, .ref b, .ref c, .ref f, .ref k, .ref q, .ref o]), (a, hO h)]) (wr := [(x, ob 6 [.ref s, .ref p, .ref z, .ref a, .ref b, .ref c, .ref f, .ref k, .ref q, .ref o])]) (call_V (q0 := 0) kX6_138 (c_isDown E (d + 2) a h (by omega)) rfl rfl rfl rfl (by omega) (by decide) (Nat.le_of_ble_eq_true rfl) (Nat.le_of_ble_eq_true rfl) dX6_drift_17) [1] [0] [0, 1] rfl rfl rfl rfl rfl rfl rfl ?_
      refine rr_if_eqD 26 dX6_drift_20 (by decide) (fun c_3 => ?_) (fun c_3 => ?_)
      · skip
        exfalso; omega
      · skip
        refine rr_bipush dX6_drift_23 (by decide) ?_
        exact rr_iret dX6_drift_25 rfl rfl ⟨rfl, rfl⟩
    · skip
      exfalso; omega
set_option maxRecDepth 100000 in
set_option maxHeartbeats 1000000 in
theorem c_drift_y (E : Ev) (d : Nat) (x s p z a b c f k q o : Nat) (pK pL pQ pW pX pY pS : Nat) (np nr : Nat) (kd lf qt wd h g0 : Nat → Int) (hp : pOK np kd lf qt wd) (ho : hOK h) (m : Nat) (hm : 1 ≤ m ∧ m ≤ 20) (hd : ¬ h 2 = 0) : SP E mX6_drift (d + 3) 0 0 [.ref x, .int (zz ↑m)] [(x, ob 6 [.ref s, .ref p, .ref z, .ref a, .ref b, .ref c, .ref f, .ref k, .ref q, .ref o]), (p, ob 2 [.ref pK, .ref pL, .ref pQ, .ref pW, .ref pX, .ref pY, .ref pS, .int (zz ↑np), .int (zz ↑nr)]), (pW, aI E 10 wd), (a, hO h), (b, hO g0)] (fun v w => v = some (.int (zz (10 * glN wd m h 1 + glN wd m h 0))) ∧ ∃ g1 : Nat → Int, w = [(x, ob 6 [.ref s, .ref p, .ref z, .ref a, .ref b, .ref c, .ref f, .ref k, .ref q, .ref o]), (p, ob 2 [.ref pK, .ref pL, .ref pQ, .ref pW, .ref pX, .ref pY, .ref pS, .int (zz ↑np), .int (zz ↑nr)]), (pW, aI E 10 wd), (a, hO h), (b, hO g1)]) := by
  show RR E mX6_drift (d + 3) 0 0 0 [(0, .ref x), (1, .int (zz ↑m))] [] [(x, ob 6 [.ref s, .ref p, .ref z, .ref a, .ref b, .ref c, .ref f, .ref k, .ref q, .ref o]), (p, ob 2 [.ref pK, .ref pL, .ref pQ, .ref pW, .ref pX, .ref pY, .ref pS, .int (zz ↑np), .int (zz ↑nr)]), (pW, aI E 10 wd), (a, hO h), (b, hO g0)] (fun v w => v = some (.int (zz (10 * glN wd m h 1 + glN wd m h 0))) ∧ ∃ g1 : Nat → Int, w = [(x, ob 6 [.ref s, .ref p, .ref z, .ref a, .ref b, .ref c, .ref f, .ref k, .ref q, .ref o]), (p, ob 2 [.ref pK, .ref pL, .ref pQ, .ref pW, .ref pX, .ref pY, .ref pS, .int (zz ↑np), .int (zz ↑nr)]), (pW, aI E 10 wd), (a, hO h), (b, hO g1)])
  obtain ⟨o0, o1, o2, o3, o5, o6⟩ := id ho
  have hn := hp.1
  have lp : ∀ (n i : Nat) (g1 : Nat → Int), i + n = m → hOK g1 → glN wd n g1 = glN wd m h → RR E mX6_drift (d + 3) 0 0 39 [(0, .ref x), (1, .int (zz ↑m)), (2, .int (zz ↑i))] [] [(x, ob 6 [.ref s, .ref p, .ref z, .ref a, .ref b, .ref c, .ref f, .ref k, .ref q, .ref o]), (p, ob 2 [.ref pK, .ref pL, .ref pQ, .ref pW, .ref pX, .ref pY, .ref pS, .int (zz ↑np), .int (zz ↑nr)]), (pW, aI E 10 wd), (a, hO h), (b, hO g1)] (fun v w => v = some (.int (zz (10 * glN wd m h 1 + glN wd m h 0))) ∧ ∃ g1 : Nat → Int, w = [(x, ob 6 [.ref s, .ref p, .ref z, .ref a, .ref b, .ref c, .ref f, .ref k, .ref q, .ref o]), (p, ob 2 [.ref pK, .ref pL, .ref pQ, .ref pW, .ref pX, .ref pY, .ref pS, .int (zz ↑np), .int (zz ↑nr)]), (pW, aI E 10 wd), (a, hO h), (b, hO g1)]) := by
    intro n
    induction n with
    | zero =>
      intro i g1 h1 h2 h3
      rw [glN] at h3
      subst h3
      refine rr_iload_n 2 dX6_drift_39 rfl ?_
      refine rr_iload_n 1 dX6_drift_40 rfl ?_
      refine rr_icmp_ge 61 dX6_drift_41 (by decide) (by omega) (by omega) (fun c_1 => ?_) (fun c_1 => ?_)
      · skip
        refine rr_aload_n 0 dX6_drift_61 rfl ?_
        refine rr_get fX6_33 0 rfl rfl dX6_drift_62 ?_
        refine rr_callFi (ws2 := [(x, ob 6 [.ref s, .ref p, .ref z, .ref a, .ref b, .ref c, .ref f, .ref k, .ref q, .ref o]), (p, ob 2 [.ref pK, .ref pL, .ref pQ, .ref pW, .ref pX, .ref pY, .ref pS, .int (zz ↑np), .int (zz ↑nr)]), (pW, aI E 10 wd), (a, hO h), (b, hO (glN wd m h))]) (wr := [(x, ob 6 [.ref s, .ref p, .ref z, .ref a, .ref b, .ref c, .ref f, .ref k, .ref q, .ref o]), (p, ob 2 [.ref pK, .ref pL, .ref pQ, .ref pW, .ref pX, .ref pY, .ref pS, .int (zz ↑np), .int (zz ↑nr)]), (pW, aI E 10 wd), (a, hO h)]) (call_V (q0 := 0) kX6_155 (c_spot E (d + 2) b (glN wd m h)) rfl rfl rfl rfl (by omega) (by decide) (Nat.le_of_ble_eq_true rfl) (Nat.le_of_ble_eq_true rfl) dX6_drift_65) [4] [0, 1, 2, 3] [0, 1, 2, 3, 4] rfl rfl rfl rfl rfl rfl rfl ?_
        exact rr_iret dX6_drift_68 rfl rfl ⟨rfl, _, rfl⟩
      · skip
        exfalso; omega
    | succ n ih =>
      intro i g1 h1 h2 h3
      rw [glN] at h3
      refine rr_iload_n 2 dX6_drift_39 rfl ?_
      refine rr_iload_n 1 dX6_drift_40 rfl ?_
      refine rr_icmp_ge 61 dX6_drift_41 (by decide) (by omega) (by omega) (fun c_2 => ?_) (fun c_2 => ?_)
      · skip
        exfalso; omega
      · skip
        refine rr_aload_n 0 dX6_drift_44 rfl ?_
        refine rr_get fX6_19 0 rfl rfl dX6_drift_45 ?_
        refine rr_aload_n 0 dX6_drift_48 rfl ?_
        refine rr_get fX6_33 0 rfl rfl dX6_drift_49 ?_
        refine rr_callFv (ws2 := [(x, ob 6 [.ref s, .ref p, .ref z, .ref a, .ref b, .ref c, .ref f, .ref k, .ref q, .ref o]), (p, ob 2 [.ref pK, .ref pL, .ref pQ, .ref pW, .ref pX, .ref pY, .ref pS, .int (zz ↑np), .int (zz ↑nr)]), (pW, aI E 10 wd), (a, hO h), (b, hO (glF wd g1))]) (wr := [(x, ob 6 [.ref s, .ref p, .ref z, .ref a, .ref b, .ref c, .ref f, .ref k, .ref q, .ref o]), (a, hO h)]) (call_V (q0 := 0) kX6_152 (c_glide E (d + 0) p pK pL pQ pW pX pY pS np nr b kd lf qt wd g1 hp h2) rfl rfl rfl rfl (by omega) (by decide) (Nat.le_of_ble_eq_true rfl) (Nat.le_of_ble_eq_true rfl) dX6_drift_52) [1, 2, 4] [0, 3] [0, 2, 3, 1, 4] rfl rfl rfl rfl rfl rfl rfl ?_
        refine rr_iinc (lv2 := [(0, .ref x), (1, .int (zz ↑m)), (2, .int (zz (↑(i + 1))))]) 2 dX6_drift_55 rfl (by decide) rfl ?_
        refine rr_goto 39 dX6_drift_58 (by decide) ?_
        exact ih (i + 1) (glF wd g1) (by omega) (glF_ok h2) h3
  refine rr_iload_n 1 dX6_drift_0 rfl ?_
  refine rr_iconst dX6_drift_1 ?_
  refine rr_icmp_lt 11 dX6_drift_2 (by decide) (by omega) (by omega) (fun c_3 => ?_) (fun c_3 => ?_)
  · skip
    exfalso; omega
  · skip
    refine rr_iload_n 1 dX6_drift_5 rfl ?_
    refine rr_bipush dX6_drift_6 (by decide) ?_
    refine rr_icmp_le 13 dX6_drift_8 (by decide) (by omega) (by omega) (fun c_4 => ?_) (fun c_4 => ?_)
    · skip
      refine rr_aload_n 0 dX6_drift_13 rfl ?_
      refine rr_get fX6_29 0 rfl rfl dX6_drift_14 ?_
      refine rr_callFi (ws2 := [(x, ob 6 [.ref s, .ref p, .ref z, .ref a, .ref b, .ref c, .ref f, .ref k, .ref q, .ref o]), (p, ob 2 [.ref pK, .ref pL, .ref pQ, .ref pW, .ref pX, .ref pY, .ref pS, .int (zz ↑np), .int (zz ↑nr)]), (pW, aI E 10 wd), (a, hO h), (b, hO g0)]) (wr := [(x, ob 6 [.ref s, .ref p, .ref z, .ref a, .ref b, .ref c, .ref f, .ref k, .ref q, .ref o]), (p, ob 2 [.ref pK, .ref pL, .ref pQ, .ref pW, .ref pX, .ref pY, .ref pS, .int (zz ↑np), .int (zz ↑nr)]), (pW, aI E 10 wd), (b, hO g0)]) (call_V (q0 := 0) kX6_138 (c_isDown E (d + 2) a h (by omega)) rfl rfl rfl rfl (by omega) (by decide) (Nat.le_of_ble_eq_true rfl) (Nat.le_of_ble_eq_true rfl) dX6_drift_17) [3] [0, 1, 2, 4] [0, 1, 2, 4, 3] rfl rfl rfl rfl rfl rfl rfl ?_
      refine rr_if_eqD 26 dX6_drift_20 (by decide) (fun c_5 => ?_) (fun c_5 => ?_)
      · skip
        refine rr_aload_n 0 dX6_drift_26 rfl ?_
        refine rr_get fX6_33 0 rfl rfl dX6_drift_27 ?_
        refine rr_aload_n 0 dX6_drift_30 rfl ?_
        refine rr_get fX6_29 0 rfl rfl dX6_drift_31 ?_
        refine rr_callFv (ws2 := [(x, ob 6 [.ref s, .ref p, .ref z, .ref a, .ref b, .ref c, .ref f, .ref k, .ref q, .ref o]), (p, ob 2 [.ref pK, .ref pL, .ref pQ, .ref pW, .ref pX, .ref pY, .ref pS, .int (zz ↑np), .int (zz ↑nr)]), (pW, aI E 10 wd), (a, hO h), (b, hO h)]) (wr := [(x, ob 6 [.ref s, .ref p, .ref z, .ref a, .ref b, .ref c, .ref f, .ref k, .ref q, .ref o]), (p, ob 2 [.ref pK, .ref pL, .ref pQ, .ref pW, .ref pX, .ref pY, .ref pS, .int (zz ↑np), .int (zz ↑nr)]), (pW, aI E 10 wd)]) (call_V (q0 := 0) kX6_93 (c_copy E (d + 2) b a g0 h) rfl rfl rfl rfl (by omega) (by decide) (Nat.le_of_ble_eq_true rfl) (Nat.le_of_ble_eq_true rfl) dX6_drift_34) [4, 3] [0, 1, 2] [0, 1, 2, 4, 3] rfl rfl rfl rfl rfl rfl rfl ?_
        refine rr_iconst dX6_drift_37 ?_
        refine rr_istore_n (lv2 := [(0, .ref x), (1, .int (zz ↑m)), (2, .int (zz 0))]) dX6_drift_38 (by decide) rfl ?_
        exact lp m 0 h (by omega) ho rfl
      · skip
        exfalso; omega
    · skip
      exfalso; omega
set_option maxRecDepth 100000 in
set_option maxHeartbeats 1000000 in
theorem c_flight_bad (E : Ev) (d : Nat) (x s p z a b c f k q o : Nat) (y m w : Int) (gy : -2147483648 ≤ y ∧ y < 2147483648) (gm : -2147483648 ≤ m ∧ m < 2147483648) (gw : -2147483648 ≤ w ∧ w < 2147483648) (hc : ¬ ((0 ≤ y ∧ y ≤ 9999) ∧ (1 ≤ m ∧ m ≤ 40) ∧ 0 ≤ w ∧ w ≤ 1)) : SP E mX6_flight (d + 4) 0 0 [.ref x, .int (zz y), .int (zz m), .int (zz w)] [(x, ob 6 [.ref s, .ref p, .ref z, .ref a, .ref b, .ref c, .ref f, .ref k, .ref q, .ref o])] (FP (some (.int (zz (-1)))) [(x, ob 6 [.ref s, .ref p, .ref z, .ref a, .ref b, .ref c, .ref f, .ref k, .ref q, .ref o])]) := by
  show RR E mX6_flight (d + 4) 0 0 0 [(0, .ref x), (1, .int (zz y)), (2, .int (zz m)), (3, .int (zz w))] [] [(x, ob 6 [.ref s, .ref p, .ref z, .ref a, .ref b, .ref c, .ref f, .ref k, .ref q, .ref o])] (FP (some (.int (zz (-1)))) [(x, ob 6 [.ref s, .ref p, .ref z, .ref a, .ref b, .ref c, .ref f, .ref k, .ref q, .ref o])])
  refine rr_iload_n 1 dX6_flight_0 rfl ?_
  refine rr_if_lt 31 dX6_flight_1 (by decide) (by omega) (fun c_1 => ?_) (fun c_1 => ?_)
  · skip
    refine rr_iconst dX6_flight_31 ?_
    exact rr_iret dX6_flight_32 rfl rfl ⟨rfl, rfl⟩
  · skip
    refine rr_iload_n 1 dX6_flight_4 rfl ?_
    refine rr_sipush dX6_flight_5 (by decide) ?_
    refine rr_icmp_gt 31 dX6_flight_8 (by decide) (by omega) (by omega) (fun c_2 => ?_) (fun c_2 => ?_)
    · skip
      refine rr_iconst dX6_flight_31 ?_
      exact rr_iret dX6_flight_32 rfl rfl ⟨rfl, rfl⟩
    · skip
      refine rr_iload_n 2 dX6_flight_11 rfl ?_
      refine rr_iconst dX6_flight_12 ?_
      refine rr_icmp_lt 31 dX6_flight_13 (by decide) (by omega) (by omega) (fun c_3 => ?_) (fun c_3 => ?_)
      · skip
        refine rr_iconst dX6_flight_31 ?_
        exact rr_iret dX6_flight_32 rfl rfl ⟨rfl, rfl⟩
      · skip
        refine rr_iload_n 2 dX6_flight_16 rfl ?_
        refine rr_bipush dX6_flight_17 (by decide) ?_
        refine rr_icmp_gt 31 dX6_flight_19 (by decide) (by omega) (by omega) (fun c_4 => ?_) (fun c_4 => ?_)
        · skip
          refine rr_iconst dX6_flight_31 ?_
          exact rr_iret dX6_flight_32 rfl rfl ⟨rfl, rfl⟩
        · skip
          refine rr_iload_n 3 dX6_flight_22 rfl ?_
          refine rr_if_lt 31 dX6_flight_23 (by decide) (by omega) (fun c_5 => ?_) (fun c_5 => ?_)
          · skip
            refine rr_iconst dX6_flight_31 ?_
            exact rr_iret dX6_flight_32 rfl rfl ⟨rfl, rfl⟩
          · skip
            refine rr_iload_n 3 dX6_flight_26 rfl ?_
            refine rr_iconst dX6_flight_27 ?_
            refine rr_icmp_le 33 dX6_flight_28 (by decide) (by omega) (by omega) (fun c_6 => ?_) (fun c_6 => ?_)
            · skip
              exfalso; omega
            · skip
              refine rr_iconst dX6_flight_31 ?_
              exact rr_iret dX6_flight_32 rfl rfl ⟨rfl, rfl⟩
set_option maxRecDepth 100000 in
set_option maxHeartbeats 1000000 in
theorem c_flight_y (E : Ev) (d : Nat) (x s p z a b c f k q o : Nat) (pK pL pQ pW pX pY pS : Nat) (np nr : Nat) (rx ry : Nat → Int) (kd lf qt wd h g0 : Nat → Int) (hp : pOK np kd lf qt wd) (ho : hOK h) (hr : rOK nr rx ry) (hnp : 1 ≤ np) (zn m : Nat) (w : Int) (hz : zn ≤ 9999) (hm : 1 ≤ m ∧ m ≤ 40) (hw : 0 ≤ w ∧ w ≤ 1) : SP E mX6_flight (d + 4) 0 0 [.ref x, .int (zz ↑zn), .int (zz ↑m), .int (zz w)] [(x, ob 6 [.ref s, .ref p, .ref z, .ref a, .ref b, .ref c, .ref f, .ref k, .ref q, .ref o]), (p, ob 2 [.ref pK, .ref pL, .ref pQ, .ref pW, .ref pX, .ref pY, .ref pS, .int (zz ↑np), .int (zz ↑nr)]), (pK, aI E 7 kd), (pL, aI E 7 lf), (pQ, aI E 7 qt), (pW, aI E 10 wd), (pX, aI E 6 rx), (pY, aI E 6 ry), (a, hO h), (b, hO g0)] (fun v w1 => v = some (.int (zz (flA nr rx ry w (flN np kd lf qt wd zn m 0 h)))) ∧ ∃ g1 : Nat → Int, w1 = [(x, ob 6 [.ref s, .ref p, .ref z, .ref a, .ref b, .ref c, .ref f, .ref k, .ref q, .ref o]), (p, ob 2 [.ref pK, .ref pL, .ref pQ, .ref pW, .ref pX, .ref pY, .ref pS, .int (zz ↑np), .int (zz ↑nr)]), (pK, aI E 7 kd), (pL, aI E 7 lf), (pQ, aI E 7 qt), (pW, aI E 10 wd), (pX, aI E 6 rx), (pY, aI E 6 ry), (a, hO h), (b, hO g1)]) := by
  show RR E mX6_flight (d + 4) 0 0 0 [(0, .ref x), (1, .int (zz ↑zn)), (2, .int (zz ↑m)), (3, .int (zz w))] [] [(x, ob 6 [.ref s, .ref p, .ref z, .ref a, .ref b, .ref c, .ref f, .ref k, .ref q, .ref o]), (p, ob 2 [.ref pK, .ref pL, .ref pQ, .ref pW, .ref pX, .ref pY, .ref pS, .int (zz ↑np), .int (zz ↑nr)]), (pK, aI E 7 kd), (pL, aI E 7 lf), (pQ, aI E 7 qt), (pW, aI E 10 wd), (pX, aI E 6 rx), (pY, aI E 6 ry), (a, hO h), (b, hO g0)] (fun v w1 => v = some (.int (zz (flA nr rx ry w (flN np kd lf qt wd zn m 0 h)))) ∧ ∃ g1 : Nat → Int, w1 = [(x, ob 6 [.ref s, .ref p, .ref z, .ref a, .ref b, .ref c, .ref f, .ref k, .ref q, .ref o]), (p, ob 2 [.ref pK, .ref pL, .ref pQ, .ref pW, .ref pX, .ref pY, .ref pS, .int (zz ↑np), .int (zz ↑nr)]), (pK, aI E 7 kd), (pL, aI E 7 lf), (pQ, aI E 7 qt), (pW, aI E 10 wd), (pX, aI E 6 rx), (pY, aI E 6 ry), (a, hO h), (b, hO g1)])
  obtain ⟨o0, o1, o2, o3, o5, o6⟩ := id ho
  have hn := hp.1
  have lp : ∀ (n t : Nat) (g1 : Nat → Int), t + n = m → hOK g1 → flN np kd lf qt wd zn n t g1 = flN np kd lf qt wd zn m 0 h → RR E mX6_flight (d + 4) 0 0 47 [(0, .ref x), (1, .int (zz ↑zn)), (2, .int (zz ↑m)), (3, .int (zz w)), (4, .int (zz ↑t))] [] [(x, ob 6 [.ref s, .ref p, .ref z, .ref a, .ref b, .ref c, .ref f, .ref k, .ref q, .ref o]), (p, ob 2 [.ref pK, .ref pL, .ref pQ, .ref pW, .ref pX, .ref pY, .ref pS, .int (zz ↑np), .int (zz ↑nr)]), (pK, aI E 7 kd), (pL, aI E 7 lf), (pQ, aI E 7 qt), (pW, aI E 10 wd), (pX, aI E 6 rx), (pY, aI E 6 ry), (a, hO h), (b, hO g1)] (fun v w1 => v = some (.int (zz (flA nr rx ry w (flN np kd lf qt wd zn m 0 h)))) ∧ ∃ g1 : Nat → Int, w1 = [(x, ob 6 [.ref s, .ref p, .ref z, .ref a, .ref b, .ref c, .ref f, .ref k, .ref q, .ref o]), (p, ob 2 [.ref pK, .ref pL, .ref pQ, .ref pW, .ref pX, .ref pY, .ref pS, .int (zz ↑np), .int (zz ↑nr)]), (pK, aI E 7 kd), (pL, aI E 7 lf), (pQ, aI E 7 qt), (pW, aI E 10 wd), (pX, aI E 6 rx), (pY, aI E 6 ry), (a, hO h), (b, hO g1)]) := by
    intro n
    induction n with
    | zero =>
      intro t g1 h1 h2 h3
      rw [flN] at h3
      refine rr_iload 4 dX6_flight_47 rfl ?_
      refine rr_iload_n 2 dX6_flight_49 rfl ?_
      refine rr_icmp_ge 87 dX6_flight_50 (by decide) (by omega) (by omega) (fun c_1 => ?_) (fun c_1 => ?_)
      · skip
        refine rr_iload_n 3 dX6_flight_87 rfl ?_
        refine rr_iconst dX6_flight_88 ?_
        refine rr_icmp_ne 111 dX6_flight_89 (by decide) (by omega) (by omega) (fun c_2 => ?_) (fun c_2 => ?_)
        · skip
          refine rr_aload_n 0 dX6_flight_111 rfl ?_
          refine rr_get fX6_19 0 rfl rfl dX6_flight_112 ?_
          refine rr_aload_n 0 dX6_flight_115 rfl ?_
          refine rr_get fX6_33 0 rfl rfl dX6_flight_116 ?_
          refine rr_callFi (ws2 := [(x, ob 6 [.ref s, .ref p, .ref z, .ref a, .ref b, .ref c, .ref f, .ref k, .ref q, .ref o]), (p, ob 2 [.ref pK, .ref pL, .ref pQ, .ref pW, .ref pX, .ref pY, .ref pS, .int (zz ↑np), .int (zz ↑nr)]), (pK, aI E 7 kd), (pL, aI E 7 lf), (pQ, aI E 7 qt), (pW, aI E 10 wd), (pX, aI E 6 rx), (pY, aI E 6 ry), (a, hO h), (b, hO g1)]) (wr := [(x, ob 6 [.ref s, .ref p, .ref z, .ref a, .ref b, .ref c, .ref f, .ref k, .ref q, .ref o]), (pK, aI E 7 kd), (pL, aI E 7 lf), (pQ, aI E 7 qt), (pW, aI E 10 wd), (a, hO h)]) (call_V (q0 := 0) kX6_161 (c_hasLanded E (d + 2) p pK pL pQ pW pX pY pS np nr b rx ry g1 hr h2) rfl rfl rfl rfl (by omega) (by decide) (Nat.le_of_ble_eq_true rfl) (Nat.le_of_ble_eq_true rfl) dX6_flight_119) [1, 6, 7, 9] [0, 2, 3, 4, 5, 8] [0, 6, 1, 2, 3, 4, 7, 8, 5, 9] rfl rfl rfl rfl rfl rfl rfl ?_
          refine rr_if_eqB 130 dX6_flight_122 (by decide) (fun hld => ?_) (fun hld => ?_)
          · skip
            refine rr_bipush dX6_flight_130 (by decide) ?_
            exact rr_iret dX6_flight_132 rfl rfl ⟨by rw [← h3]; exact congrArg (fun z => some (Value.int (zz z))) (by dsimp only [flA]; rw [if_neg (by omega), if_neg (by rw [show landF nr rx ry g1 = false from hld]; decide)]), g1, rfl⟩
          · skip
            refine rr_iload 4 dX6_flight_125 rfl ?_
            refine rr_goto 132 dX6_flight_127 (by decide) ?_
            exact rr_iret dX6_flight_132 rfl rfl ⟨by rw [← h3]; exact congrArg (fun z => some (Value.int (zz z))) (by dsimp only [flA]; rw [if_neg (by omega), if_pos (show landF nr rx ry g1 = true from hld)]), g1, rfl⟩
        · skip
          refine rr_bipush dX6_flight_92 (by decide) ?_
          refine rr_aload_n 0 dX6_flight_94 rfl ?_
          refine rr_get fX6_33 0 rfl rfl dX6_flight_95 ?_
          refine rr_get fX6_149 9 rfl rfl dX6_flight_98 ?_
          refine rr_imul dX6_flight_101 ?_
          refine rr_aload_n 0 dX6_flight_102 rfl ?_
          refine rr_get fX6_33 0 rfl rfl dX6_flight_103 ?_
          refine rr_callFi (ws2 := [(x, ob 6 [.ref s, .ref p, .ref z, .ref a, .ref b, .ref c, .ref f, .ref k, .ref q, .ref o]), (p, ob 2 [.ref pK, .ref pL, .ref pQ, .ref pW, .ref pX, .ref pY, .ref pS, .int (zz ↑np), .int (zz ↑nr)]), (pK, aI E 7 kd), (pL, aI E 7 lf), (pQ, aI E 7 qt), (pW, aI E 10 wd), (pX, aI E 6 rx), (pY, aI E 6 ry), (a, hO h), (b, hO g1)]) (wr := [(x, ob 6 [.ref s, .ref p, .ref z, .ref a, .ref b, .ref c, .ref f, .ref k, .ref q, .ref o]), (p, ob 2 [.ref pK, .ref pL, .ref pQ, .ref pW, .ref pX, .ref pY, .ref pS, .int (zz ↑np), .int (zz ↑nr)]), (pK, aI E 7 kd), (pL, aI E 7 lf), (pQ, aI E 7 qt), (pW, aI E 10 wd), (pX, aI E 6 rx), (pY, aI E 6 ry), (a, hO h)]) (call_V (q0 := 0) kX6_155 (c_spot E (d + 3) b g1) rfl rfl rfl rfl (by omega) (by decide) (Nat.le_of_ble_eq_true rfl) (Nat.le_of_ble_eq_true rfl) dX6_flight_106) [9] [0, 1, 2, 3, 4, 5, 6, 7, 8] [0, 1, 2, 3, 4, 5, 6, 7, 8, 9] rfl rfl rfl rfl rfl rfl rfl ?_
          refine rr_iadd dX6_flight_109 ?_
          exact rr_iret dX6_flight_110 rfl rfl ⟨by rw [← h3]; exact congrArg (fun z => some (Value.int (zz z))) (by dsimp only [flA]; rw [if_pos (by omega)]), g1, rfl⟩
      · skip
        exfalso; omega
    | succ n ih =>
      intro t g1 h1 h2 h3
      rw [flN] at h3
      have hdr : drw zn t np < np := Nat.mod_lt _ (by omega)
      obtain ⟨q0, q1, q2, q3, q5, q6⟩ := id h2
      refine rr_iload 4 dX6_flight_47 rfl ?_
      refine rr_iload_n 2 dX6_flight_49 rfl ?_
      refine rr_icmp_ge 87 dX6_flight_50 (by decide) (by omega) (by omega) (fun c_3 => ?_) (fun c_3 => ?_)
      · skip
        exfalso; omega
      · skip
        refine rr_aload_n 0 dX6_flight_53 rfl ?_
        refine rr_get fX6_33 0 rfl rfl dX6_flight_54 ?_
        refine rr_callFi (ws2 := [(x, ob 6 [.ref s, .ref p, .ref z, .ref a, .ref b, .ref c, .ref f, .ref k, .ref q, .ref o]), (p, ob 2 [.ref pK, .ref pL, .ref pQ, .ref pW, .ref pX, .ref pY, .ref pS, .int (zz ↑np), .int (zz ↑nr)]), (pK, aI E 7 kd), (pL, aI E 7 lf), (pQ, aI E 7 qt), (pW, aI E 10 wd), (pX, aI E 6 rx), (pY, aI E 6 ry), (a, hO h), (b, hO g1)]) (wr := [(x, ob 6 [.ref s, .ref p, .ref z, .ref a, .ref b, .ref c, .ref f, .ref k, .ref q, .ref o]), (p, ob 2 [.ref pK, .ref pL, .ref pQ, .ref pW, .ref pX, .ref pY, .ref pS, .int (zz ↑np), .int (zz ↑nr)]), (pK, aI E 7 kd), (pL, aI E 7 lf), (pQ, aI E 7 qt), (pW, aI E 10 wd), (pX, aI E 6 rx), (pY, aI E 6 ry), (a, hO h)]) (call_V (q0 := 0) kX6_138 (c_isDown E (d + 3) b g1 (by omega)) rfl rfl rfl rfl (by omega) (by decide) (Nat.le_of_ble_eq_true rfl) (Nat.le_of_ble_eq_true rfl) dX6_flight_57) [9] [0, 1, 2, 3, 4, 5, 6, 7, 8] [0, 1, 2, 3, 4, 5, 6, 7, 8, 9] rfl rfl rfl rfl rfl rfl rfl ?_
        refine rr_if_neD 87 dX6_flight_60 (by decide) (fun hdn => ?_) (fun hdn => ?_)
        · skip
          refine rr_iload_n 3 dX6_flight_87 rfl ?_
          refine rr_iconst dX6_flight_88 ?_
          refine rr_icmp_ne 111 dX6_flight_89 (by decide) (by omega) (by omega) (fun c_4 => ?_) (fun c_4 => ?_)
          · skip
            refine rr_aload_n 0 dX6_flight_111 rfl ?_
            refine rr_get fX6_19 0 rfl rfl dX6_flight_112 ?_
            refine rr_aload_n 0 dX6_flight_115 rfl ?_
            refine rr_get fX6_33 0 rfl rfl dX6_flight_116 ?_
            refine rr_callFi (ws2 := [(x, ob 6 [.ref s, .ref p, .ref z, .ref a, .ref b, .ref c, .ref f, .ref k, .ref q, .ref o]), (p, ob 2 [.ref pK, .ref pL, .ref pQ, .ref pW, .ref pX, .ref pY, .ref pS, .int (zz ↑np), .int (zz ↑nr)]), (pK, aI E 7 kd), (pL, aI E 7 lf), (pQ, aI E 7 qt), (pW, aI E 10 wd), (pX, aI E 6 rx), (pY, aI E 6 ry), (a, hO h), (b, hO g1)]) (wr := [(x, ob 6 [.ref s, .ref p, .ref z, .ref a, .ref b, .ref c, .ref f, .ref k, .ref q, .ref o]), (pK, aI E 7 kd), (pL, aI E 7 lf), (pQ, aI E 7 qt), (pW, aI E 10 wd), (a, hO h)]) (call_V (q0 := 0) kX6_161 (c_hasLanded E (d + 2) p pK pL pQ pW pX pY pS np nr b rx ry g1 hr h2) rfl rfl rfl rfl (by omega) (by decide) (Nat.le_of_ble_eq_true rfl) (Nat.le_of_ble_eq_true rfl) dX6_flight_119) [1, 6, 7, 9] [0, 2, 3, 4, 5, 8] [0, 6, 1, 2, 3, 4, 7, 8, 5, 9] rfl rfl rfl rfl rfl rfl rfl ?_
            refine rr_if_eqB 130 dX6_flight_122 (by decide) (fun hld => ?_) (fun hld => ?_)
            · skip
              refine rr_bipush dX6_flight_130 (by decide) ?_
              exact rr_iret dX6_flight_132 rfl rfl ⟨by rw [← h3, if_pos hdn]; exact congrArg (fun z => some (Value.int (zz z))) (by dsimp only [flA]; rw [if_neg (by omega), if_neg (by rw [show landF nr rx ry g1 = false from hld]; decide)]), g1, rfl⟩
            · skip
              refine rr_iload 4 dX6_flight_125 rfl ?_
              refine rr_goto 132 dX6_flight_127 (by decide) ?_
              exact rr_iret dX6_flight_132 rfl rfl ⟨by rw [← h3, if_pos hdn]; exact congrArg (fun z => some (Value.int (zz z))) (by dsimp only [flA]; rw [if_neg (by omega), if_pos (show landF nr rx ry g1 = true from hld)]), g1, rfl⟩
          · skip
            refine rr_bipush dX6_flight_92 (by decide) ?_
            refine rr_aload_n 0 dX6_flight_94 rfl ?_
            refine rr_get fX6_33 0 rfl rfl dX6_flight_95 ?_
            refine rr_get fX6_149 9 rfl rfl dX6_flight_98 ?_
            refine rr_imul dX6_flight_101 ?_
            refine rr_aload_n 0 dX6_flight_102 rfl ?_
            refine rr_get fX6_33 0 rfl rfl dX6_flight_103 ?_
            refine rr_callFi (ws2 := [(x, ob 6 [.ref s, .ref p, .ref z, .ref a, .ref b, .ref c, .ref f, .ref k, .ref q, .ref o]), (p, ob 2 [.ref pK, .ref pL, .ref pQ, .ref pW, .ref pX, .ref pY, .ref pS, .int (zz ↑np), .int (zz ↑nr)]), (pK, aI E 7 kd), (pL, aI E 7 lf), (pQ, aI E 7 qt), (pW, aI E 10 wd), (pX, aI E 6 rx), (pY, aI E 6 ry), (a, hO h), (b, hO g1)]) (wr := [(x, ob 6 [.ref s, .ref p, .ref z, .ref a, .ref b, .ref c, .ref f, .ref k, .ref q, .ref o]), (p, ob 2 [.ref pK, .ref pL, .ref pQ, .ref pW, .ref pX, .ref pY, .ref pS, .int (zz ↑np), .int (zz ↑nr)]), (pK, aI E 7 kd), (pL, aI E 7 lf), (pQ, aI E 7 qt), (pW, aI E 10 wd), (pX, aI E 6 rx), (pY, aI E 6 ry), (a, hO h)]) (call_V (q0 := 0) kX6_155 (c_spot E (d + 3) b g1) rfl rfl rfl rfl (by omega) (by decide) (Nat.le_of_ble_eq_true rfl) (Nat.le_of_ble_eq_true rfl) dX6_flight_106) [9] [0, 1, 2, 3, 4, 5, 6, 7, 8] [0, 1, 2, 3, 4, 5, 6, 7, 8, 9] rfl rfl rfl rfl rfl rfl rfl ?_
            refine rr_iadd dX6_flight_109 ?_
            exact rr_iret dX6_flight_110 rfl rfl ⟨by rw [← h3, if_pos hdn]; exact congrArg (fun z => some (Value.int (zz z))) (by dsimp only [flA]; rw [if_pos (by omega)]), g1, rfl⟩
        · skip
          refine rr_aload_n 0 dX6_flight_63 rfl ?_
          refine rr_get fX6_19 0 rfl rfl dX6_flight_64 ?_
          refine rr_aload_n 0 dX6_flight_67 rfl ?_
          refine rr_get fX6_33 0 rfl rfl dX6_flight_68 ?_
          refine rr_aload_n 0 dX6_flight_71 rfl ?_
          refine rr_iload_n 1 dX6_flight_72 rfl ?_
          refine rr_iload 4 dX6_flight_73 rfl ?_
          refine rr_callFi (ws2 := [(x, ob 6 [.ref s, .ref p, .ref z, .ref a, .ref b, .ref c, .ref f, .ref k, .ref q, .ref o]), (p, ob 2 [.ref pK, .ref pL, .ref pQ, .ref pW, .ref pX, .ref pY, .ref pS, .int (zz ↑np), .int (zz ↑nr)]), (pK, aI E 7 kd), (pL, aI E 7 lf), (pQ, aI E 7 qt), (pW, aI E 10 wd), (pX, aI E 6 rx), (pY, aI E 6 ry), (a, hO h), (b, hO g1)]) (wr := [(pK, aI E 7 kd), (pL, aI E 7 lf), (pQ, aI E 7 qt), (pW, aI E 10 wd), (pX, aI E 6 rx), (pY, aI E 6 ry), (a, hO h), (b, hO g1)]) (call_V (q0 := 0) kX6_230 (c_drawnPeg E (d + 3) x s p z a b c f k q o pK pL pQ pW pX pY pS np nr zn t (by omega) (by omega) (by omega)) rfl rfl rfl rfl (by omega) (by decide) (Nat.le_of_ble_eq_true rfl) (Nat.le_of_ble_eq_true rfl) dX6_flight_75) [0, 1] [2, 3, 4, 5, 6, 7, 8, 9] [8, 9, 0, 1, 2, 3, 4, 5, 6, 7] rfl rfl rfl rfl rfl rfl rfl ?_
          refine rr_callFv (ws2 := [(x, ob 6 [.ref s, .ref p, .ref z, .ref a, .ref b, .ref c, .ref f, .ref k, .ref q, .ref o]), (p, ob 2 [.ref pK, .ref pL, .ref pQ, .ref pW, .ref pX, .ref pY, .ref pS, .int (zz ↑np), .int (zz ↑nr)]), (pK, aI E 7 kd), (pL, aI E 7 lf), (pQ, aI E 7 qt), (pW, aI E 10 wd), (pX, aI E 6 rx), (pY, aI E 6 ry), (a, hO h), (b, hO (tnF np kd lf qt wd g1 (drw zn t np)))]) (wr := [(x, ob 6 [.ref s, .ref p, .ref z, .ref a, .ref b, .ref c, .ref f, .ref k, .ref q, .ref o]), (pX, aI E 6 rx), (pY, aI E 6 ry), (a, hO h)]) (call_V (q0 := 0) kX6_145 (c_turnPeg E (d + 0) p pK pL pQ pW pX pY pS np nr b kd lf qt wd g1 (drw zn t np) hp h2 (by omega)) rfl rfl rfl rfl (by omega) (by decide) (Nat.le_of_ble_eq_true rfl) (Nat.le_of_ble_eq_true rfl) dX6_flight_78) [1, 2, 3, 4, 5, 9] [0, 6, 7, 8] [0, 4, 5, 6, 7, 8, 1, 2, 3, 9] rfl rfl rfl rfl rfl rfl rfl ?_
          refine rr_iinc (lv2 := [(0, .ref x), (1, .int (zz ↑zn)), (2, .int (zz ↑m)), (3, .int (zz w)), (4, .int (zz (↑(t + 1))))]) 4 dX6_flight_81 rfl (by decide) rfl ?_
          refine rr_goto 47 dX6_flight_84 (by decide) ?_
          exact ih (t + 1) (tnF np kd lf qt wd g1 (drw zn t np)) (by omega) (tnF_ok hp h2 hdr) (by rw [if_neg hdn] at h3; exact h3)
  refine rr_iload_n 1 dX6_flight_0 rfl ?_
  refine rr_if_lt 31 dX6_flight_1 (by decide) (by omega) (fun c_5 => ?_) (fun c_5 => ?_)
  · skip
    exfalso; omega
  · skip
    refine rr_iload_n 1 dX6_flight_4 rfl ?_
    refine rr_sipush dX6_flight_5 (by decide) ?_
    refine rr_icmp_gt 31 dX6_flight_8 (by decide) (by omega) (by omega) (fun c_6 => ?_) (fun c_6 => ?_)
    · skip
      exfalso; omega
    · skip
      refine rr_iload_n 2 dX6_flight_11 rfl ?_
      refine rr_iconst dX6_flight_12 ?_
      refine rr_icmp_lt 31 dX6_flight_13 (by decide) (by omega) (by omega) (fun c_7 => ?_) (fun c_7 => ?_)
      · skip
        exfalso; omega
      · skip
        refine rr_iload_n 2 dX6_flight_16 rfl ?_
        refine rr_bipush dX6_flight_17 (by decide) ?_
        refine rr_icmp_gt 31 dX6_flight_19 (by decide) (by omega) (by omega) (fun c_8 => ?_) (fun c_8 => ?_)
        · skip
          exfalso; omega
        · skip
          refine rr_iload_n 3 dX6_flight_22 rfl ?_
          refine rr_if_lt 31 dX6_flight_23 (by decide) (by omega) (fun c_9 => ?_) (fun c_9 => ?_)
          · skip
            exfalso; omega
          · skip
            refine rr_iload_n 3 dX6_flight_26 rfl ?_
            refine rr_iconst dX6_flight_27 ?_
            refine rr_icmp_le 33 dX6_flight_28 (by decide) (by omega) (by omega) (fun c_10 => ?_) (fun c_10 => ?_)
            · skip
              refine rr_aload_n 0 dX6_flight_33 rfl ?_
              refine rr_get fX6_33 0 rfl rfl dX6_flight_34 ?_
              refine rr_aload_n 0 dX6_flight_37 rfl ?_
              refine rr_get fX6_29 0 rfl rfl dX6_flight_38 ?_
              refine rr_callFv (ws2 := [(x, ob 6 [.ref s, .ref p, .ref z, .ref a, .ref b, .ref c, .ref f, .ref k, .ref q, .ref o]), (p, ob 2 [.ref pK, .ref pL, .ref pQ, .ref pW, .ref pX, .ref pY, .ref pS, .int (zz ↑np), .int (zz ↑nr)]), (pK, aI E 7 kd), (pL, aI E 7 lf), (pQ, aI E 7 qt), (pW, aI E 10 wd), (pX, aI E 6 rx), (pY, aI E 6 ry), (a, hO h), (b, hO h)]) (wr := [(x, ob 6 [.ref s, .ref p, .ref z, .ref a, .ref b, .ref c, .ref f, .ref k, .ref q, .ref o]), (p, ob 2 [.ref pK, .ref pL, .ref pQ, .ref pW, .ref pX, .ref pY, .ref pS, .int (zz ↑np), .int (zz ↑nr)]), (pK, aI E 7 kd), (pL, aI E 7 lf), (pQ, aI E 7 qt), (pW, aI E 10 wd), (pX, aI E 6 rx), (pY, aI E 6 ry)]) (call_V (q0 := 0) kX6_93 (c_copy E (d + 3) b a g0 h) rfl rfl rfl rfl (by omega) (by decide) (Nat.le_of_ble_eq_true rfl) (Nat.le_of_ble_eq_true rfl) dX6_flight_41) [9, 8] [0, 1, 2, 3, 4, 5, 6, 7] [0, 1, 2, 3, 4, 5, 6, 7, 9, 8] rfl rfl rfl rfl rfl rfl rfl ?_
              refine rr_iconst dX6_flight_44 ?_
              refine rr_istore (lv2 := [(0, .ref x), (1, .int (zz ↑zn)), (2, .int (zz ↑m)), (3, .int (zz w)), (4, .int (zz 0))]) dX6_flight_45 (by decide) rfl ?_
              exact lp m 0 h (by omega) ho rfl
            · skip
              exfalso; omega
set_option maxRecDepth 100000 in
set_option maxHeartbeats 1000000 in
theorem c_power (E : Ev) (d : Nat) (b n : Nat) (hn : n ≤ 6) : SP E mX6_power (d + 0) 0 0 [.int (zz ↑b), .int (zz ↑n)] [] (FP (some (.int (zz ((b ^ n : Nat) : Int)))) []) := by
  show RR E mX6_power (d + 0) 0 0 0 [(0, .int (zz ↑b)), (1, .int (zz ↑n))] [] [] (FP (some (.int (zz ((b ^ n : Nat) : Int)))) [])
  have lp : ∀ (r i : Nat), i + r = n → RR E mX6_power (d + 0) 0 0 4 [(0, .int (zz ↑b)), (1, .int (zz ↑n)), (2, .int (zz ((b ^ i : Nat) : Int))), (3, .int (zz ↑i))] [] [] (FP (some (.int (zz ((b ^ n : Nat) : Int)))) []) := by
    intro r
    induction r with
    | zero =>
      intro i h1
      obtain rfl : i = n := by omega
      refine rr_iload_n 3 dX6_power_4 rfl ?_
      refine rr_iload_n 1 dX6_power_5 rfl ?_
      refine rr_icmp_ge 19 dX6_power_6 (by decide) (by omega) (by omega) (fun c_1 => ?_) (fun c_1 => ?_)
      · skip
        refine rr_iload_n 2 dX6_power_19 rfl ?_
        exact rr_iret dX6_power_20 rfl rfl ⟨rfl, rfl⟩
      · skip
        exfalso; omega
    | succ r ih =>
      intro i h1
      refine rr_iload_n 3 dX6_power_4 rfl ?_
      refine rr_iload_n 1 dX6_power_5 rfl ?_
      refine rr_icmp_ge 19 dX6_power_6 (by decide) (by omega) (by omega) (fun c_2 => ?_) (fun c_2 => ?_)
      · skip
        exfalso; omega
      · skip
        refine rr_iload_n 2 dX6_power_9 rfl ?_
        refine rr_iload_n 0 dX6_power_10 rfl ?_
        refine rr_imul dX6_power_11 ?_
        refine rr_top (b := ((b ^ (i + 1) : Nat) : Int)) (by rw [Nat.pow_succ, Int.natCast_mul]) ?_
        refine rr_istore_n (lv2 := [(0, .int (zz ↑b)), (1, .int (zz ↑n)), (2, .int (zz ((b ^ (i + 1) : Nat) : Int))), (3, .int (zz ↑i))]) dX6_power_12 (by decide) rfl ?_
        refine rr_iinc (lv2 := [(0, .int (zz ↑b)), (1, .int (zz ↑n)), (2, .int (zz ((b ^ (i + 1) : Nat) : Int))), (3, .int (zz (↑(i + 1))))]) 3 dX6_power_13 rfl (by decide) rfl ?_
        refine rr_goto 4 dX6_power_16 (by decide) ?_
        exact ih (i + 1) (by omega)
  refine rr_iconst dX6_power_0 ?_
  refine rr_istore_n (lv2 := [(0, .int (zz ↑b)), (1, .int (zz ↑n)), (2, .int (zz 1))]) dX6_power_1 (by decide) rfl ?_
  refine rr_iconst dX6_power_2 ?_
  refine rr_istore_n (lv2 := [(0, .int (zz ↑b)), (1, .int (zz ↑n)), (2, .int (zz 1)), (3, .int (zz 0))]) dX6_power_3 (by decide) rfl ?_
  exact lp n 0 (by omega)
set_option maxRecDepth 100000 in
set_option maxHeartbeats 1000000 in
theorem c_gcd (E : Ev) (d : Nat) (A B : Nat) (hA : A < 2147483648) (hB : B < 2147483648) : SP E mX6_commonDivisor (d + 0) 0 0 [.int (zz ↑A), .int (zz ↑B)] [] (FP (some (.int (zz ((gcdF 64 A B : Nat) : Int)))) []) := by
  show RR E mX6_commonDivisor (d + 0) 0 0 0 [(0, .int (zz ↑A)), (1, .int (zz ↑B))] [] [] (FP (some (.int (zz ((gcdF 64 A B : Nat) : Int)))) [])
  have lp : ∀ (r i a b : Nat), i + r = 64 → a < 2147483648 → b < 2147483648 → gcdF r a b = gcdF 64 A B → RR E mX6_commonDivisor (d + 0) 0 0 7 [(0, .int (zz ↑A)), (1, .int (zz ↑B)), (2, .int (zz ↑a)), (3, .int (zz ↑b)), (4, .int (zz ↑i))] [] [] (FP (some (.int (zz ((gcdF 64 A B : Nat) : Int)))) []) := by
    intro r
    induction r with
    | zero =>
      intro i a b h1 h2 h3 h4
      rw [gcdF] at h4
      refine rr_iload 4 dX6_commonDivisor_7 rfl ?_
      refine rr_bipush dX6_commonDivisor_9 (by decide) ?_
      refine rr_icmp_ge 34 dX6_commonDivisor_11 (by decide) (by omega) (by omega) (fun c_1 => ?_) (fun c_1 => ?_)
      · skip
        refine rr_iload_n 2 dX6_commonDivisor_34 rfl ?_
        exact rr_iret dX6_commonDivisor_35 rfl rfl ⟨by rw [← h4], rfl⟩
      · skip
        exfalso; omega
    | succ r ih =>
      intro i a b h1 h2 h3 h4
      rw [gcdF] at h4
      refine rr_iload 4 dX6_commonDivisor_7 rfl ?_
      refine rr_bipush dX6_commonDivisor_9 (by decide) ?_
      refine rr_icmp_ge 34 dX6_commonDivisor_11 (by decide) (by omega) (by omega) (fun c_2 => ?_) (fun c_2 => ?_)
      · skip
        exfalso; omega
      · skip
        refine rr_iload_n 3 dX6_commonDivisor_14 rfl ?_
        refine rr_if_eq 34 dX6_commonDivisor_15 (by decide) (by omega) (fun c_3 => ?_) (fun c_3 => ?_)
        · skip
          refine rr_iload_n 2 dX6_commonDivisor_34 rfl ?_
          exact rr_iret dX6_commonDivisor_35 rfl rfl ⟨by rw [← h4, if_pos (by omega)], rfl⟩
        · skip
          refine rr_iload_n 2 dX6_commonDivisor_18 rfl ?_
          refine rr_iload_n 3 dX6_commonDivisor_19 rfl ?_
          refine rr_irem dX6_commonDivisor_20 (by omega) (by omega) ?_
          refine rr_top (b := ((a % b : Nat) : Int)) (by rw [Int.natCast_emod]) ?_
          refine rr_istore (lv2 := [(0, .int (zz ↑A)), (1, .int (zz ↑B)), (2, .int (zz ↑a)), (3, .int (zz ↑b)), (4, .int (zz ↑i)), (5, .int (zz ((a % b : Nat) : Int)))]) dX6_commonDivisor_21 (by decide) rfl ?_
          refine rr_iload_n 3 dX6_commonDivisor_23 rfl ?_
          refine rr_istore_n (lv2 := [(0, .int (zz ↑A)), (1, .int (zz ↑B)), (2, .int (zz ↑b)), (3, .int (zz ↑b)), (4, .int (zz ↑i)), (5, .int (zz ((a % b : Nat) : Int)))]) dX6_commonDivisor_24 (by decide) rfl ?_
          refine rr_iload 5 dX6_commonDivisor_25 rfl ?_
          refine rr_istore_n (lv2 := [(0, .int (zz ↑A)), (1, .int (zz ↑B)), (2, .int (zz ↑b)), (3, .int (zz ((a % b : Nat) : Int))), (4, .int (zz ↑i)), (5, .int (zz ((a % b : Nat) : Int)))]) dX6_commonDivisor_27 (by decide) rfl ?_
          refine rr_iinc (lv2 := [(0, .int (zz ↑A)), (1, .int (zz ↑B)), (2, .int (zz ↑b)), (3, .int (zz ((a % b : Nat) : Int))), (4, .int (zz (↑(i + 1)))), (5, .int (zz ((a % b : Nat) : Int)))]) 4 dX6_commonDivisor_28 rfl (by decide) rfl ?_
          refine rr_goto 7 dX6_commonDivisor_31 (by decide) ?_
          refine RR.lv [0, 1, 2, 3, 4] rfl ?_
          exact ih (i + 1) b (a % b) (by omega) h3 (Nat.lt_of_le_of_lt (Nat.mod_le a b) h2) (by rw [if_neg (by omega)] at h4; exact h4)
  refine rr_iload_n 0 dX6_commonDivisor_0 rfl ?_
  refine rr_istore_n (lv2 := [(0, .int (zz ↑A)), (1, .int (zz ↑B)), (2, .int (zz ↑A))]) dX6_commonDivisor_1 (by decide) rfl ?_
  refine rr_iload_n 1 dX6_commonDivisor_2 rfl ?_
  refine rr_istore_n (lv2 := [(0, .int (zz ↑A)), (1, .int (zz ↑B)), (2, .int (zz ↑A)), (3, .int (zz ↑B))]) dX6_commonDivisor_3 (by decide) rfl ?_
  refine rr_iconst dX6_commonDivisor_4 ?_
  refine rr_istore (lv2 := [(0, .int (zz ↑A)), (1, .int (zz ↑B)), (2, .int (zz ↑A)), (3, .int (zz ↑B)), (4, .int (zz 0))]) dX6_commonDivisor_5 (by decide) rfl ?_
  exact lp 64 0 A B (by omega) hA hB rfl
set_option maxRecDepth 100000 in
set_option maxHeartbeats 1000000 in
theorem c_pegOfPath_y (E : Ev) (d : Nat) (pa tu k : Nat) (hp : pa < 262144) (ht : tu ≤ 6) (hk : k < tu) : SP E mX6_pegOfPath (d + 0) 0 0 [.int (zz ↑pa), .int (zz ↑tu), .int (zz ↑k)] [] (FP (some (.int (zz ((pa / 8 ^ (tu - 1 - k) % 8 : Nat) : Int)))) []) := by
  show RR E mX6_pegOfPath (d + 0) 0 0 0 [(0, .int (zz ↑pa)), (1, .int (zz ↑tu)), (2, .int (zz ↑k))] [] [] (FP (some (.int (zz ((pa / 8 ^ (tu - 1 - k) % 8 : Nat) : Int)))) [])
  refine rr_iload_n 2 dX6_pegOfPath_0 rfl ?_
  refine rr_iload_n 1 dX6_pegOfPath_1 rfl ?_
  refine rr_icmp_ge 20 dX6_pegOfPath_2 (by decide) (by omega) (by omega) (fun c_1 => ?_) (fun c_1 => ?_)
  · skip
    exfalso; omega
  · skip
    refine rr_iload_n 0 dX6_pegOfPath_5 rfl ?_
    refine rr_iconst dX6_pegOfPath_6 ?_
    refine rr_iload_n 1 dX6_pegOfPath_7 rfl ?_
    refine rr_iconst dX6_pegOfPath_8 ?_
    refine rr_isub dX6_pegOfPath_9 ?_
    refine rr_iload_n 2 dX6_pegOfPath_10 rfl ?_
    refine rr_isub dX6_pegOfPath_11 ?_
    refine rr_imul dX6_pegOfPath_12 ?_
    refine rr_top (b := ((3 * (tu - 1 - k) : Nat) : Int)) (by omega) ?_
    refine rr_ishr (n := pa) (k := 3 * (tu - 1 - k)) dX6_pegOfPath_13 (by omega) (by omega) ?_
    refine rr_top (b := ((pa / 8 ^ (tu - 1 - k) : Nat) : Int)) (by rw [Nat.pow_mul]) ?_
    refine rr_bipush dX6_pegOfPath_14 (by decide) ?_
    refine rr_iand (r := ((pa / 8 ^ (tu - 1 - k) % 8 : Nat) : Int)) 3 dX6_pegOfPath_16 (by decide) (by decide +kernel) (by rw [Int.natCast_emod]) ?_
    refine rr_goto 22 dX6_pegOfPath_17 (by decide) ?_
    exact rr_iret dX6_pegOfPath_22 rfl rfl ⟨rfl, rfl⟩
set_option maxRecDepth 100000 in
set_option maxHeartbeats 1000000 in
theorem c_pegOfPath_n (E : Ev) (d : Nat) (pa tu k : Nat) (hk : tu ≤ k ∧ k ≤ 5) : SP E mX6_pegOfPath (d + 0) 0 0 [.int (zz ↑pa), .int (zz ↑tu), .int (zz ↑k)] [] (FP (some (.int (zz (-4)))) []) := by
  show RR E mX6_pegOfPath (d + 0) 0 0 0 [(0, .int (zz ↑pa)), (1, .int (zz ↑tu)), (2, .int (zz ↑k))] [] [] (FP (some (.int (zz (-4)))) [])
  refine rr_iload_n 2 dX6_pegOfPath_0 rfl ?_
  refine rr_iload_n 1 dX6_pegOfPath_1 rfl ?_
  refine rr_icmp_ge 20 dX6_pegOfPath_2 (by decide) (by omega) (by omega) (fun c_1 => ?_) (fun c_1 => ?_)
  · skip
    refine rr_bipush dX6_pegOfPath_20 (by decide) ?_
    exact rr_iret dX6_pegOfPath_22 rfl rfl ⟨rfl, rfl⟩
  · skip
    exfalso; omega
