set_option maxRecDepth 100000 in
set_option maxHeartbeats 4000000 in
theorem c_readItem (E : Ev) (d : Nat) (s sg nm len : Nat) (tx : Nat → Int) (at_ : Nat) (t : Nat → Int) (p pK pL pQ pW pX pY pS : Nat) (np nr : Nat) (kd lf qt wd rx ry sh : Nat → Int) (htx : txOK tx len) (hat : at_ ≤ 200) (hnm : nmOK t) (hn : np ≤ 7) (hr : nr ≤ 6) : SP E mX3_readItem (d + 3) 0 0 [.ref s, .ref p] [(s, ob 3 [.ref sg, .ref nm, .int (zz ↑len), .int (zz ↑at_)]), (sg, aC E 200 tx), (nm, aI E 4 t), (p, ob 2 [.ref pK, .ref pL, .ref pQ, .ref pW, .ref pX, .ref pY, .ref pS, .int (zz ↑np), .int (zz ↑nr)]), (pK, aI E 7 kd), (pL, aI E 7 lf), (pQ, aI E 7 qt), (pW, aI E 10 wd), (pX, aI E 6 rx), (pY, aI E 6 ry), (pS, hO sh)] (oPost (itF tx len at_ t (np, kd, lf, qt, wd, nr, rx, ry, sh)) (fun x w => nmOK x.2.2 ∧ w = scW E s sg nm len tx x.2.1 x.2.2 ++ plW E p pK pL pQ pW pX pY pS x.1) (fun w => ∃ (a2 : Nat) (t2 : Nat → Int), nmOK t2 ∧ w = scW E s sg nm len tx a2 t2 ++ plW E p pK pL pQ pW pX pY pS (np, kd, lf, qt, wd, nr, rx, ry, sh))) := by
  show RR E mX3_readItem (d + 3) 0 0 0 [(0, .ref s), (1, .ref p)] [] [(s, ob 3 [.ref sg, .ref nm, .int (zz ↑len), .int (zz ↑at_)]), (sg, aC E 200 tx), (nm, aI E 4 t), (p, ob 2 [.ref pK, .ref pL, .ref pQ, .ref pW, .ref pX, .ref pY, .ref pS, .int (zz ↑np), .int (zz ↑nr)]), (pK, aI E 7 kd), (pL, aI E 7 lf), (pQ, aI E 7 qt), (pW, aI E 10 wd), (pX, aI E 6 rx), (pY, aI E 6 ry), (pS, hO sh)] (oPost (itF tx len at_ t (np, kd, lf, qt, wd, nr, rx, ry, sh)) (fun x w => nmOK x.2.2 ∧ w = scW E s sg nm len tx x.2.1 x.2.2 ++ plW E p pK pL pQ pW pX pY pS x.1) (fun w => ∃ (a2 : Nat) (t2 : Nat → Int), nmOK t2 ∧ w = scW E s sg nm len tx a2 t2 ++ plW E p pK pL pQ pW pX pY pS (np, kd, lf, qt, wd, nr, rx, ry, sh)))
  have hlen := htx.1
  have hsg := fun a => sgF_rg (at_ := a) htx
  have hk := hsg at_
  have hN := numsF_le (sgF tx len at_)
  have lp : ∀ (r i a : Nat) (t1 : Nat → Int), i + r = numsF (sgF tx len at_) → a + 3 * r ≤ at_ + 13 → nmOK t1 → itF tx len at_ t (np, kd, lf, qt, wd, nr, rx, ry, sh) = itC tx len (sgF tx len at_) (np, kd, lf, qt, wd, nr, rx, ry, sh) r i a t1 → RR E mX3_readItem (d + 3) 0 0 23 [(0, .ref s), (1, .ref p), (2, .int (zz (sgF tx len at_))), (3, .int (zz (↑(numsF (sgF tx len at_))))), (4, .int (zz ↑i))] [] [(s, ob 3 [.ref sg, .ref nm, .int (zz ↑len), .int (zz ↑a)]), (sg, aC E 200 tx), (nm, aI E 4 t1), (p, ob 2 [.ref pK, .ref pL, .ref pQ, .ref pW, .ref pX, .ref pY, .ref pS, .int (zz ↑np), .int (zz ↑nr)]), (pK, aI E 7 kd), (pL, aI E 7 lf), (pQ, aI E 7 qt), (pW, aI E 10 wd), (pX, aI E 6 rx), (pY, aI E 6 ry), (pS, hO sh)] (oPost (itF tx len at_ t (np, kd, lf, qt, wd, nr, rx, ry, sh)) (fun x w => nmOK x.2.2 ∧ w = scW E s sg nm len tx x.2.1 x.2.2 ++ plW E p pK pL pQ pW pX pY pS x.1) (fun w => ∃ (a2 : Nat) (t2 : Nat → Int), nmOK t2 ∧ w = scW E s sg nm len tx a2 t2 ++ plW E p pK pL pQ pW pX pY pS (np, kd, lf, qt, wd, nr, rx, ry, sh))) := by
    intro r
    induction r with
    | zero =>
      intro i a t1 h1 h2 hn1 h4
      refine rr_iload 4 dX3_readItem_23 rfl ?_
      refine rr_iload_n 3 dX3_readItem_25 rfl ?_
      refine rr_icmp_ge 90 dX3_readItem_26 (by decide) (by omega) (by omega) (fun c_1 => ?_) (fun c_1 => ?_)
      · skip
        refine rr_aload_n 0 dX3_readItem_90 rfl ?_
        refine rr_aload_n 1 dX3_readItem_91 rfl ?_
        refine rr_iload_n 2 dX3_readItem_92 rfl ?_
        refine rr_call (wr := []) (call_V (q0 := 0) kX3_46 (c_tell E (d + 1) s sg nm len tx a t1 p pK pL pQ pW pX pY pS np nr kd lf qt wd rx ry sh (sgF tx len at_) (by omega) hn1 hn hr) rfl rfl rfl rfl (by omega) (by decide) (Nat.le_of_ble_eq_true rfl) (Nat.le_of_ble_eq_true rfl) dX3_readItem_93) [0, 1, 2, 3, 4, 5, 6, 7, 8, 9, 10] [] rfl rfl rfl rfl rfl (Nat.zero_le _) (Nat.zero_le _) (fun v w1 hp => ?_)
        cases htl : tellF (sgF tx len at_) t1 (np, kd, lf, qt, wd, nr, rx, ry, sh) with
        | none =>
          rw [htl] at hp
          obtain ⟨rfl, rfl⟩ := hp
          exact rr_iret dX3_readItem_96 rfl rfl (oPost_none (h4.trans (by rw [itC_0, htl])) ⟨a, t1, hn1, rfl⟩)
        | some P2 =>
          rw [htl] at hp
          obtain ⟨rfl, rfl⟩ := hp
          exact rr_iret dX3_readItem_96 rfl rfl (oPost_some (x := (P2, a, t1)) (h4.trans (by rw [itC_0, htl])) ⟨hn1, rfl⟩)
      · skip
        exfalso; omega
    | succ r ih =>
      intro i a t1 h1 h2 hn1 h4
      have g0 := hsg a
      have g1 := hsg (a + 1)
      have g2 := hsg (a + 2)
      refine rr_iload 4 dX3_readItem_23 rfl ?_
      refine rr_iload_n 3 dX3_readItem_25 rfl ?_
      refine rr_icmp_ge 90 dX3_readItem_26 (by decide) (by omega) (by omega) (fun c_2 => ?_) (fun c_2 => ?_)
      · skip
        exfalso; omega
      · skip
        refine rr_aload_n 0 dX3_readItem_29 rfl ?_
        refine rr_get fX3_15 0 rfl rfl dX3_readItem_30 ?_
        refine rr_iload 4 dX3_readItem_33 rfl ?_
        refine rr_aload_n 0 dX3_readItem_35 rfl ?_
        rcases rd_cases tx len a with ⟨hf, hg⟩ | ⟨hf, hg⟩ | hf
        · skip
          refine rr_callFi (ws2 := [(s, ob 3 [.ref sg, .ref nm, .int (zz ↑len), .int (zz (↑(a + 2)))]), (sg, aC E 200 tx), (nm, aI E 4 t1), (p, ob 2 [.ref pK, .ref pL, .ref pQ, .ref pW, .ref pX, .ref pY, .ref pS, .int (zz ↑np), .int (zz ↑nr)]), (pK, aI E 7 kd), (pL, aI E 7 lf), (pQ, aI E 7 qt), (pW, aI E 10 wd), (pX, aI E 6 rx), (pY, aI E 6 ry), (pS, hO sh)]) (wr := [(nm, aI E 4 t1), (p, ob 2 [.ref pK, .ref pL, .ref pQ, .ref pW, .ref pX, .ref pY, .ref pS, .int (zz ↑np), .int (zz ↑nr)]), (pK, aI E 7 kd), (pL, aI E 7 lf), (pQ, aI E 7 qt), (pW, aI E 10 wd), (pX, aI E 6 rx), (pY, aI E 6 ry), (pS, hO sh)]) (call_V (q0 := 0) kX3_43 (c_readNumber_2 E (d + 0) s sg nm len tx a htx (by omega) hf hg) rfl rfl rfl rfl (by omega) (by decide) (Nat.le_of_ble_eq_true rfl) (Nat.le_of_ble_eq_true rfl) dX3_readItem_36) [0, 1] [2, 3, 4, 5, 6, 7, 8, 9, 10] [9, 10, 0, 1, 2, 3, 4, 5, 6, 7, 8] rfl rfl rfl rfl rfl rfl rfl ?_
          refine rr_iast (ws2 := [(s, ob 3 [.ref sg, .ref nm, .int (zz ↑len), .int (zz (↑(a + 2)))]), (sg, aC E 200 tx), (nm, aI E 4 (updI t1 i (10 * (sgF tx len a - 48) + (sgF tx len (a + 1) - 48)))), (p, ob 2 [.ref pK, .ref pL, .ref pQ, .ref pW, .ref pX, .ref pY, .ref pS, .int (zz ↑np), .int (zz ↑nr)]), (pK, aI E 7 kd), (pL, aI E 7 lf), (pQ, aI E 7 qt), (pW, aI E 10 wd), (pX, aI E 6 rx), (pY, aI E 6 ry), (pS, hO sh)]) 2 i rfl rfl (by omega) (by omega) rfl dX3_readItem_39 ?_
          refine rr_aload_n 0 dX3_readItem_40 rfl ?_
          refine rr_get fX3_15 0 rfl rfl dX3_readItem_41 ?_
          refine rr_iload 4 dX3_readItem_44 rfl ?_
          refine rr_iald 2 i rfl rfl (by omega) (by omega) dX3_readItem_46 ?_
          refine rr_top (b := 10 * (sgF tx len a - 48) + (sgF tx len (a + 1) - 48)) (updI_eq _ _ _) ?_
          refine rr_if_lt 72 dX3_readItem_47 (by decide) (by omega) (fun c_3 => ?_) (fun c_3 => ?_)
          · skip
            exfalso; omega
          · skip
            refine rr_aload_n 0 dX3_readItem_50 rfl ?_
            refine rr_callFi (ws2 := [(s, ob 3 [.ref sg, .ref nm, .int (zz ↑len), .int (zz (↑(a + 2)))]), (sg, aC E 200 tx), (nm, aI E 4 (updI t1 i (10 * (sgF tx len a - 48) + (sgF tx len (a + 1) - 48)))), (p, ob 2 [.ref pK, .ref pL, .ref pQ, .ref pW, .ref pX, .ref pY, .ref pS, .int (zz ↑np), .int (zz ↑nr)]), (pK, aI E 7 kd), (pL, aI E 7 lf), (pQ, aI E 7 qt), (pW, aI E 10 wd), (pX, aI E 6 rx), (pY, aI E 6 ry), (pS, hO sh)]) (wr := [(nm, aI E 4 (updI t1 i (10 * (sgF tx len a - 48) + (sgF tx len (a + 1) - 48)))), (p, ob 2 [.ref pK, .ref pL, .ref pQ, .ref pW, .ref pX, .ref pY, .ref pS, .int (zz ↑np), .int (zz ↑nr)]), (pK, aI E 7 kd), (pL, aI E 7 lf), (pQ, aI E 7 qt), (pW, aI E 10 wd), (pX, aI E 6 rx), (pY, aI E 6 ry), (pS, hO sh)]) (call_V (q0 := 0) kX3_35 (c_sign E (d + 2) s sg nm len tx (a + 2) htx (by omega)) rfl rfl rfl rfl (by omega) (by decide) (Nat.le_of_ble_eq_true rfl) (Nat.le_of_ble_eq_true rfl) dX3_readItem_51) [0, 1] [2, 3, 4, 5, 6, 7, 8, 9, 10] [9, 10, 0, 1, 2, 3, 4, 5, 6, 7, 8] rfl rfl rfl rfl rfl rfl rfl ?_
            refine rr_iload 4 dX3_readItem_54 rfl ?_
            refine rr_iload_n 3 dX3_readItem_56 rfl ?_
            refine rr_iconst dX3_readItem_57 ?_
            refine rr_isub dX3_readItem_58 ?_
            refine rr_icmp_ge 67 dX3_readItem_59 (by decide) (by omega) (by omega) (fun c_4 => ?_) (fun c_4 => ?_)
            · skip
              refine rr_bipush dX3_readItem_67 (by decide) ?_
              refine rr_icmp_eq 74 dX3_readItem_69 (by decide) (by omega) (by omega) (fun c_5 => ?_) (fun c_5 => ?_)
              · skip
                refine rr_aload_n 0 dX3_readItem_74 rfl ?_
                refine rr_dup dX3_readItem_75 rfl ?_
                refine rr_get fX3_28 0 rfl rfl dX3_readItem_76 ?_
                refine rr_iconst dX3_readItem_79 ?_
                refine rr_iadd dX3_readItem_80 ?_
                refine rr_put (ws2 := [(s, ob 3 [.ref sg, .ref nm, .int (zz ↑len), .int (zz (↑(a + 3)))]), (sg, aC E 200 tx), (nm, aI E 4 (updI t1 i (10 * (sgF tx len a - 48) + (sgF tx len (a + 1) - 48)))), (p, ob 2 [.ref pK, .ref pL, .ref pQ, .ref pW, .ref pX, .ref pY, .ref pS, .int (zz ↑np), .int (zz ↑nr)]), (pK, aI E 7 kd), (pL, aI E 7 lf), (pQ, aI E 7 qt), (pW, aI E 10 wd), (pX, aI E 6 rx), (pY, aI E 6 ry), (pS, hO sh)]) fX3_28 0 rfl rfl rfl (Nat.le_of_ble_eq_true rfl) rfl dX3_readItem_81 ?_
                refine rr_iinc (lv2 := [(0, .ref s), (1, .ref p), (2, .int (zz (sgF tx len at_))), (3, .int (zz (↑(numsF (sgF tx len at_))))), (4, .int (zz (↑(i + 1))))]) 4 dX3_readItem_84 rfl (by decide) rfl ?_
                refine rr_goto 23 dX3_readItem_87 (by decide) ?_
                exact ih (i + 1) (a + 3) (updI t1 i (10 * (sgF tx len a - 48) + (sgF tx len (a + 1) - 48))) (by omega) (by omega) (nmOK_up hn1 (by omega)) (h4.trans (itC_s (rd1_2 hf hg (by split <;> omega))))
              · skip
                refine rr_iconst dX3_readItem_72 ?_
                exact rr_iret dX3_readItem_73 rfl rfl (oPost_none (h4.trans (itC_n (rd1_2n hf hg (by split <;> omega)))) ⟨_, _, nmOK_up hn1 (i := i) (v := (10 * (sgF tx len a - 48) + (sgF tx len (a + 1) - 48))) (by omega), rfl⟩)
            · skip
              refine rr_bipush dX3_readItem_62 (by decide) ?_
              refine rr_goto 69 dX3_readItem_64 (by decide) ?_
              refine rr_icmp_eq 74 dX3_readItem_69 (by decide) (by omega) (by omega) (fun c_6 => ?_) (fun c_6 => ?_)
              · skip
                refine rr_aload_n 0 dX3_readItem_74 rfl ?_
                refine rr_dup dX3_readItem_75 rfl ?_
                refine rr_get fX3_28 0 rfl rfl dX3_readItem_76 ?_
                refine rr_iconst dX3_readItem_79 ?_
                refine rr_iadd dX3_readItem_80 ?_
                refine rr_put (ws2 := [(s, ob 3 [.ref sg, .ref nm, .int (zz ↑len), .int (zz (↑(a + 3)))]), (sg, aC E 200 tx), (nm, aI E 4 (updI t1 i (10 * (sgF tx len a - 48) + (sgF tx len (a + 1) - 48)))), (p, ob 2 [.ref pK, .ref pL, .ref pQ, .ref pW, .ref pX, .ref pY, .ref pS, .int (zz ↑np), .int (zz ↑nr)]), (pK, aI E 7 kd), (pL, aI E 7 lf), (pQ, aI E 7 qt), (pW, aI E 10 wd), (pX, aI E 6 rx), (pY, aI E 6 ry), (pS, hO sh)]) fX3_28 0 rfl rfl rfl (Nat.le_of_ble_eq_true rfl) rfl dX3_readItem_81 ?_
                refine rr_iinc (lv2 := [(0, .ref s), (1, .ref p), (2, .int (zz (sgF tx len at_))), (3, .int (zz (↑(numsF (sgF tx len at_))))), (4, .int (zz (↑(i + 1))))]) 4 dX3_readItem_84 rfl (by decide) rfl ?_
                refine rr_goto 23 dX3_readItem_87 (by decide) ?_
                exact ih (i + 1) (a + 3) (updI t1 i (10 * (sgF tx len a - 48) + (sgF tx len (a + 1) - 48))) (by omega) (by omega) (nmOK_up hn1 (by omega)) (h4.trans (itC_s (rd1_2 hf hg (by split <;> omega))))
              · skip
                refine rr_iconst dX3_readItem_72 ?_
                exact rr_iret dX3_readItem_73 rfl rfl (oPost_none (h4.trans (itC_n (rd1_2n hf hg (by split <;> omega)))) ⟨_, _, nmOK_up hn1 (i := i) (v := (10 * (sgF tx len a - 48) + (sgF tx len (a + 1) - 48))) (by omega), rfl⟩)
        · skip
          refine rr_callFi (ws2 := [(s, ob 3 [.ref sg, .ref nm, .int (zz ↑len), .int (zz (↑(a + 1)))]), (sg, aC E 200 tx), (nm, aI E 4 t1), (p, ob 2 [.ref pK, .ref pL, .ref pQ, .ref pW, .ref pX, .ref pY, .ref pS, .int (zz ↑np), .int (zz ↑nr)]), (pK, aI E 7 kd), (pL, aI E 7 lf), (pQ, aI E 7 qt), (pW, aI E 10 wd), (pX, aI E 6 rx), (pY, aI E 6 ry), (pS, hO sh)]) (wr := [(nm, aI E 4 t1), (p, ob 2 [.ref pK, .ref pL, .ref pQ, .ref pW, .ref pX, .ref pY, .ref pS, .int (zz ↑np), .int (zz ↑nr)]), (pK, aI E 7 kd), (pL, aI E 7 lf), (pQ, aI E 7 qt), (pW, aI E 10 wd), (pX, aI E 6 rx), (pY, aI E 6 ry), (pS, hO sh)]) (call_V (q0 := 0) kX3_43 (c_readNumber_1 E (d + 0) s sg nm len tx a htx (by omega) hf hg) rfl rfl rfl rfl (by omega) (by decide) (Nat.le_of_ble_eq_true rfl) (Nat.le_of_ble_eq_true rfl) dX3_readItem_36) [0, 1] [2, 3, 4, 5, 6, 7, 8, 9, 10] [9, 10, 0, 1, 2, 3, 4, 5, 6, 7, 8] rfl rfl rfl rfl rfl rfl rfl ?_
          refine rr_iast (ws2 := [(s, ob 3 [.ref sg, .ref nm, .int (zz ↑len), .int (zz (↑(a + 1)))]), (sg, aC E 200 tx), (nm, aI E 4 (updI t1 i ((sgF tx len a) - 48))), (p, ob 2 [.ref pK, .ref pL, .ref pQ, .ref pW, .ref pX, .ref pY, .ref pS, .int (zz ↑np), .int (zz ↑nr)]), (pK, aI E 7 kd), (pL, aI E 7 lf), (pQ, aI E 7 qt), (pW, aI E 10 wd), (pX, aI E 6 rx), (pY, aI E 6 ry), (pS, hO sh)]) 2 i rfl rfl (by omega) (by omega) rfl dX3_readItem_39 ?_
          refine rr_aload_n 0 dX3_readItem_40 rfl ?_
          refine rr_get fX3_15 0 rfl rfl dX3_readItem_41 ?_
          refine rr_iload 4 dX3_readItem_44 rfl ?_
          refine rr_iald 2 i rfl rfl (by omega) (by omega) dX3_readItem_46 ?_
          refine rr_top (b := (sgF tx len a) - 48) (updI_eq _ _ _) ?_
          refine rr_if_lt 72 dX3_readItem_47 (by decide) (by omega) (fun c_7 => ?_) (fun c_7 => ?_)
          · skip
            exfalso; omega
          · skip
            refine rr_aload_n 0 dX3_readItem_50 rfl ?_
            refine rr_callFi (ws2 := [(s, ob 3 [.ref sg, .ref nm, .int (zz ↑len), .int (zz (↑(a + 1)))]), (sg, aC E 200 tx), (nm, aI E 4 (updI t1 i ((sgF tx len a) - 48))), (p, ob 2 [.ref pK, .ref pL, .ref pQ, .ref pW, .ref pX, .ref pY, .ref pS, .int (zz ↑np), .int (zz ↑nr)]), (pK, aI E 7 kd), (pL, aI E 7 lf), (pQ, aI E 7 qt), (pW, aI E 10 wd), (pX, aI E 6 rx), (pY, aI E 6 ry), (pS, hO sh)]) (wr := [(nm, aI E 4 (updI t1 i ((sgF tx len a) - 48))), (p, ob 2 [.ref pK, .ref pL, .ref pQ, .ref pW, .ref pX, .ref pY, .ref pS, .int (zz ↑np), .int (zz ↑nr)]), (pK, aI E 7 kd), (pL, aI E 7 lf), (pQ, aI E 7 qt), (pW, aI E 10 wd), (pX, aI E 6 rx), (pY, aI E 6 ry), (pS, hO sh)]) (call_V (q0 := 0) kX3_35 (c_sign E (d + 2) s sg nm len tx (a + 1) htx (by omega)) rfl rfl rfl rfl (by omega) (by decide) (Nat.le_of_ble_eq_true rfl) (Nat.le_of_ble_eq_true rfl) dX3_readItem_51) [0, 1] [2, 3, 4, 5, 6, 7, 8, 9, 10] [9, 10, 0, 1, 2, 3, 4, 5, 6, 7, 8] rfl rfl rfl rfl rfl rfl rfl ?_
            refine rr_iload 4 dX3_readItem_54 rfl ?_
            refine rr_iload_n 3 dX3_readItem_56 rfl ?_
            refine rr_iconst dX3_readItem_57 ?_
            refine rr_isub dX3_readItem_58 ?_
            refine rr_icmp_ge 67 dX3_readItem_59 (by decide) (by omega) (by omega) (fun c_8 => ?_) (fun c_8 => ?_)
            · skip
              refine rr_bipush dX3_readItem_67 (by decide) ?_
              refine rr_icmp_eq 74 dX3_readItem_69 (by decide) (by omega) (by omega) (fun c_9 => ?_) (fun c_9 => ?_)
              · skip
                refine rr_aload_n 0 dX3_readItem_74 rfl ?_
                refine rr_dup dX3_readItem_75 rfl ?_
                refine rr_get fX3_28 0 rfl rfl dX3_readItem_76 ?_
                refine rr_iconst dX3_readItem_79 ?_
                refine rr_iadd dX3_readItem_80 ?_
                refine rr_put (ws2 := [(s, ob 3 [.ref sg, .ref nm, .int (zz ↑len), .int (zz (↑(a + 2)))]), (sg, aC E 200 tx), (nm, aI E 4 (updI t1 i ((sgF tx len a) - 48))), (p, ob 2 [.ref pK, .ref pL, .ref pQ, .ref pW, .ref pX, .ref pY, .ref pS, .int (zz ↑np), .int (zz ↑nr)]), (pK, aI E 7 kd), (pL, aI E 7 lf), (pQ, aI E 7 qt), (pW, aI E 10 wd), (pX, aI E 6 rx), (pY, aI E 6 ry), (pS, hO sh)]) fX3_28 0 rfl rfl rfl (Nat.le_of_ble_eq_true rfl) rfl dX3_readItem_81 ?_
                refine rr_iinc (lv2 := [(0, .ref s), (1, .ref p), (2, .int (zz (sgF tx len at_))), (3, .int (zz (↑(numsF (sgF tx len at_))))), (4, .int (zz (↑(i + 1))))]) 4 dX3_readItem_84 rfl (by decide) rfl ?_
                refine rr_goto 23 dX3_readItem_87 (by decide) ?_
                exact ih (i + 1) (a + 2) (updI t1 i (sgF tx len a - 48)) (by omega) (by omega) (nmOK_up hn1 (by omega)) (h4.trans (itC_s (rd1_1 hf hg (by split <;> omega))))
              · skip
                refine rr_iconst dX3_readItem_72 ?_
                exact rr_iret dX3_readItem_73 rfl rfl (oPost_none (h4.trans (itC_n (rd1_1n hf hg (by split <;> omega)))) ⟨_, _, nmOK_up hn1 (i := i) (v := (sgF tx len a - 48)) (by omega), rfl⟩)
            · skip
              refine rr_bipush dX3_readItem_62 (by decide) ?_
              refine rr_goto 69 dX3_readItem_64 (by decide) ?_
              refine rr_icmp_eq 74 dX3_readItem_69 (by decide) (by omega) (by omega) (fun c_10 => ?_) (fun c_10 => ?_)
              · skip
                refine rr_aload_n 0 dX3_readItem_74 rfl ?_
                refine rr_dup dX3_readItem_75 rfl ?_
                refine rr_get fX3_28 0 rfl rfl dX3_readItem_76 ?_
                refine rr_iconst dX3_readItem_79 ?_
                refine rr_iadd dX3_readItem_80 ?_
                refine rr_put (ws2 := [(s, ob 3 [.ref sg, .ref nm, .int (zz ↑len), .int (zz (↑(a + 2)))]), (sg, aC E 200 tx), (nm, aI E 4 (updI t1 i ((sgF tx len a) - 48))), (p, ob 2 [.ref pK, .ref pL, .ref pQ, .ref pW, .ref pX, .ref pY, .ref pS, .int (zz ↑np), .int (zz ↑nr)]), (pK, aI E 7 kd), (pL, aI E 7 lf), (pQ, aI E 7 qt), (pW, aI E 10 wd), (pX, aI E 6 rx), (pY, aI E 6 ry), (pS, hO sh)]) fX3_28 0 rfl rfl rfl (Nat.le_of_ble_eq_true rfl) rfl dX3_readItem_81 ?_
                refine rr_iinc (lv2 := [(0, .ref s), (1, .ref p), (2, .int (zz (sgF tx len at_))), (3, .int (zz (↑(numsF (sgF tx len at_))))), (4, .int (zz (↑(i + 1))))]) 4 dX3_readItem_84 rfl (by decide) rfl ?_
                refine rr_goto 23 dX3_readItem_87 (by decide) ?_
                exact ih (i + 1) (a + 2) (updI t1 i (sgF tx len a - 48)) (by omega) (by omega) (nmOK_up hn1 (by omega)) (h4.trans (itC_s (rd1_1 hf hg (by split <;> omega))))
              · skip
                refine rr_iconst dX3_readItem_72 ?_
                exact rr_iret dX3_readItem_73 rfl rfl (oPost_none (h4.trans (itC_n (rd1_1n hf hg (by split <;> omega)))) ⟨_, _, nmOK_up hn1 (i := i) (v := (sgF tx len a - 48)) (by omega), rfl⟩)
        · skip
          refine rr_callFi (ws2 := [(s, ob 3 [.ref sg, .ref nm, .int (zz ↑len), .int (zz ↑a)]), (sg, aC E 200 tx), (nm, aI E 4 t1), (p, ob 2 [.ref pK, .ref pL, .ref pQ, .ref pW, .ref pX, .ref pY, .ref pS, .int (zz ↑np), .int (zz ↑nr)]), (pK, aI E 7 kd), (pL, aI E 7 lf), (pQ, aI E 7 qt), (pW, aI E 10 wd), (pX, aI E 6 rx), (pY, aI E 6 ry), (pS, hO sh)]) (wr := [(nm, aI E 4 t1), (p, ob 2 [.ref pK, .ref pL, .ref pQ, .ref pW, .ref pX, .ref pY, .ref pS, .int (zz ↑np), .int (zz ↑nr)]), (pK, aI E 7 kd), (pL, aI E 7 lf), (pQ, aI E 7 qt), (pW, aI E 10 wd), (pX, aI E 6 rx), (pY, aI E 6 ry), (pS, hO sh)]) (call_V (q0 := 0) kX3_43 (c_readNumber_0 E (d + 0) s sg nm len tx a htx (by omega) hf) rfl rfl rfl rfl (by omega) (by decide) (Nat.le_of_ble_eq_true rfl) (Nat.le_of_ble_eq_true rfl) dX3_readItem_36) [0, 1] [2, 3, 4, 5, 6, 7, 8, 9, 10] [9, 10, 0, 1, 2, 3, 4, 5, 6, 7, 8] rfl rfl rfl rfl rfl rfl rfl ?_
          refine rr_iast (ws2 := [(s, ob 3 [.ref sg, .ref nm, .int (zz ↑len), .int (zz ↑a)]), (sg, aC E 200 tx), (nm, aI E 4 (updI t1 i (-1))), (p, ob 2 [.ref pK, .ref pL, .ref pQ, .ref pW, .ref pX, .ref pY, .ref pS, .int (zz ↑np), .int (zz ↑nr)]), (pK, aI E 7 kd), (pL, aI E 7 lf), (pQ, aI E 7 qt), (pW, aI E 10 wd), (pX, aI E 6 rx), (pY, aI E 6 ry), (pS, hO sh)]) 2 i rfl rfl (by omega) (by omega) rfl dX3_readItem_39 ?_
          refine rr_aload_n 0 dX3_readItem_40 rfl ?_
          refine rr_get fX3_15 0 rfl rfl dX3_readItem_41 ?_
          refine rr_iload 4 dX3_readItem_44 rfl ?_
          refine rr_iald 2 i rfl rfl (by omega) (by omega) dX3_readItem_46 ?_
          refine rr_top (b := -1) (updI_eq _ _ _) ?_
          refine rr_if_lt 72 dX3_readItem_47 (by decide) (by omega) (fun c_11 => ?_) (fun c_11 => ?_)
          · skip
            refine rr_iconst dX3_readItem_72 ?_
            exact rr_iret dX3_readItem_73 rfl rfl (oPost_none (h4.trans (itC_n (rd1_0 hf))) ⟨_, _, nmOK_up hn1 (i := i) (v := (-1)) (by omega), rfl⟩)
          · skip
            exfalso; omega
  refine rr_aload_n 0 dX3_readItem_0 rfl ?_
  refine rr_callFi (ws2 := [(s, ob 3 [.ref sg, .ref nm, .int (zz ↑len), .int (zz ↑at_)]), (sg, aC E 200 tx), (nm, aI E 4 t), (p, ob 2 [.ref pK, .ref pL, .ref pQ, .ref pW, .ref pX, .ref pY, .ref pS, .int (zz ↑np), .int (zz ↑nr)]), (pK, aI E 7 kd), (pL, aI E 7 lf), (pQ, aI E 7 qt), (pW, aI E 10 wd), (pX, aI E 6 rx), (pY, aI E 6 ry), (pS, hO sh)]) (wr := [(nm, aI E 4 t), (p, ob 2 [.ref pK, .ref pL, .ref pQ, .ref pW, .ref pX, .ref pY, .ref pS, .int (zz ↑np), .int (zz ↑nr)]), (pK, aI E 7 kd), (pL, aI E 7 lf), (pQ, aI E 7 qt), (pW, aI E 10 wd), (pX, aI E 6 rx), (pY, aI E 6 ry), (pS, hO sh)]) (call_V (q0 := 0) kX3_35 (c_sign E (d + 2) s sg nm len tx at_ htx (by omega)) rfl rfl rfl rfl (by omega) (by decide) (Nat.le_of_ble_eq_true rfl) (Nat.le_of_ble_eq_true rfl) dX3_readItem_1) [0, 1] [2, 3, 4, 5, 6, 7, 8, 9, 10] [9, 10, 0, 1, 2, 3, 4, 5, 6, 7, 8] rfl rfl rfl rfl rfl rfl rfl ?_
  refine rr_istore_n (lv2 := [(0, .ref s), (1, .ref p), (2, .int (zz (sgF tx len at_)))]) dX3_readItem_4 (by decide) rfl ?_
  refine rr_aload_n 0 dX3_readItem_5 rfl ?_
  refine rr_dup dX3_readItem_6 rfl ?_
  refine rr_get fX3_28 0 rfl rfl dX3_readItem_7 ?_
  refine rr_iconst dX3_readItem_10 ?_
  refine rr_iadd dX3_readItem_11 ?_
  refine rr_put (ws2 := [(s, ob 3 [.ref sg, .ref nm, .int (zz ↑len), .int (zz (↑(at_ + 1)))]), (sg, aC E 200 tx), (nm, aI E 4 t), (p, ob 2 [.ref pK, .ref pL, .ref pQ, .ref pW, .ref pX, .ref pY, .ref pS, .int (zz ↑np), .int (zz ↑nr)]), (pK, aI E 7 kd), (pL, aI E 7 lf), (pQ, aI E 7 qt), (pW, aI E 10 wd), (pX, aI E 6 rx), (pY, aI E 6 ry), (pS, hO sh)]) fX3_28 0 rfl rfl rfl (Nat.le_of_ble_eq_true rfl) rfl dX3_readItem_12 ?_
  refine rr_iload_n 2 dX3_readItem_15 rfl ?_
  refine rr_callFi (ws2 := [(s, ob 3 [.ref sg, .ref nm, .int (zz ↑len), .int (zz (↑(at_ + 1)))]), (sg, aC E 200 tx), (nm, aI E 4 t), (p, ob 2 [.ref pK, .ref pL, .ref pQ, .ref pW, .ref pX, .ref pY, .ref pS, .int (zz ↑np), .int (zz ↑nr)]), (pK, aI E 7 kd), (pL, aI E 7 lf), (pQ, aI E 7 qt), (pW, aI E 10 wd), (pX, aI E 6 rx), (pY, aI E 6 ry), (pS, hO sh)]) (wr := [(s, ob 3 [.ref sg, .ref nm, .int (zz ↑len), .int (zz (↑(at_ + 1)))]), (sg, aC E 200 tx), (nm, aI E 4 t), (p, ob 2 [.ref pK, .ref pL, .ref pQ, .ref pW, .ref pX, .ref pY, .ref pS, .int (zz ↑np), .int (zz ↑nr)]), (pK, aI E 7 kd), (pL, aI E 7 lf), (pQ, aI E 7 qt), (pW, aI E 10 wd), (pX, aI E 6 rx), (pY, aI E 6 ry), (pS, hO sh)]) (call_S kX3_39 (c_numbersOf E (d + 2) (sgF tx len at_) (by omega)) rfl (by omega) (by decide) (Nat.le_of_ble_eq_true rfl) (Nat.le_of_ble_eq_true rfl) dX3_readItem_16) [] [0, 1, 2, 3, 4, 5, 6, 7, 8, 9, 10] [0, 1, 2, 3, 4, 5, 6, 7, 8, 9, 10] rfl rfl rfl rfl rfl rfl rfl ?_
  refine rr_istore_n (lv2 := [(0, .ref s), (1, .ref p), (2, .int (zz (sgF tx len at_))), (3, .int (zz (↑(numsF (sgF tx len at_)))))]) dX3_readItem_19 (by decide) rfl ?_
  refine rr_iconst dX3_readItem_20 ?_
  refine rr_istore (lv2 := [(0, .ref s), (1, .ref p), (2, .int (zz (sgF tx len at_))), (3, .int (zz (↑(numsF (sgF tx len at_))))), (4, .int (zz 0))]) dX3_readItem_21 (by decide) rfl ?_
  exact lp (numsF (sgF tx len at_)) 0 (at_ + 1) t (by omega) (by omega) hnm rfl
set_option maxRecDepth 100000 in
set_option maxHeartbeats 4000000 in
theorem c_readInto (E : Ev) (d : Nat) (s sg nm len : Nat) (tx : Nat → Int) (at_ : Nat) (t : Nat → Int) (p pK pL pQ pW pX pY pS : Nat) (np nr : Nat) (kd lf qt wd rx ry sh : Nat → Int) (htx : txOK tx len) (hnm : nmOK t) : SP E mX3_readInto (d + 4) 0 0 [.ref s, .ref p] [(s, ob 3 [.ref sg, .ref nm, .int (zz ↑len), .int (zz ↑at_)]), (sg, aC E 200 tx), (nm, aI E 4 t), (p, ob 2 [.ref pK, .ref pL, .ref pQ, .ref pW, .ref pX, .ref pY, .ref pS, .int (zz ↑np), .int (zz ↑nr)]), (pK, aI E 7 kd), (pL, aI E 7 lf), (pQ, aI E 7 qt), (pW, aI E 10 wd), (pX, aI E 6 rx), (pY, aI E 6 ry), (pS, hO sh)] (fun v w => ∃ (a2 : Nat) (t2 : Nat → Int), nmOK t2 ∧ v = some (.int (zz (psF tx len 200 0 t (clrF (np, kd, lf, qt, wd, nr, rx, ry, sh))).1)) ∧ w = scW E s sg nm len tx a2 t2 ++ plW E p pK pL pQ pW pX pY pS (psF tx len 200 0 t (clrF (np, kd, lf, qt, wd, nr, rx, ry, sh))).2) := by
  show RR E mX3_readInto (d + 4) 0 0 0 [(0, .ref s), (1, .ref p)] [] [(s, ob 3 [.ref sg, .ref nm, .int (zz ↑len), .int (zz ↑at_)]), (sg, aC E 200 tx), (nm, aI E 4 t), (p, ob 2 [.ref pK, .ref pL, .ref pQ, .ref pW, .ref pX, .ref pY, .ref pS, .int (zz ↑np), .int (zz ↑nr)]), (pK, aI E 7 kd), (pL, aI E 7 lf), (pQ, aI E 7 qt), (pW, aI E 10 wd), (pX, aI E 6 rx), (pY, aI E 6 ry), (pS, hO sh)] (fun v w => ∃ (a2 : Nat) (t2 : Nat → Int), nmOK t2 ∧ v = some (.int (zz (psF tx len 200 0 t (clrF (np, kd, lf, qt, wd, nr, rx, ry, sh))).1)) ∧ w = scW E s sg nm len tx a2 t2 ++ plW E p pK pL pQ pW pX pY pS (psF tx len 200 0 t (clrF (np, kd, lf, qt, wd, nr, rx, ry, sh))).2)
  have hlen := htx.1
  have lp : ∀ (f i a : Nat) (t1 : Nat → Int) (np1 nr1 : Nat) (kd1 lf1 qt1 wd1 rx1 ry1 sh1 : Nat → Int), i + f = 200 → a ≤ 200 → nmOK t1 → np1 ≤ 7 → nr1 ≤ 6 → psF tx len f a t1 (np1, kd1, lf1, qt1, wd1, nr1, rx1, ry1, sh1) = psF tx len 200 0 t (clrF (np, kd, lf, qt, wd, nr, rx, ry, sh)) → RR E mX3_readInto (d + 4) 0 0 11 [(0, .ref s), (1, .ref p), (2, .int (zz ↑i))] [] [(s, ob 3 [.ref sg, .ref nm, .int (zz ↑len), .int (zz ↑a)]), (sg, aC E 200 tx), (nm, aI E 4 t1), (p, ob 2 [.ref pK, .ref pL, .ref pQ, .ref pW, .ref pX, .ref pY, .ref pS, .int (zz ↑np1), .int (zz ↑nr1)]), (pK, aI E 7 kd1), (pL, aI E 7 lf1), (pQ, aI E 7 qt1), (pW, aI E 10 wd1), (pX, aI E 6 rx1), (pY, aI E 6 ry1), (pS, hO sh1)] (fun v w => ∃ (a2 : Nat) (t2 : Nat → Int), nmOK t2 ∧ v = some (.int (zz (psF tx len 200 0 t (clrF (np, kd, lf, qt, wd, nr, rx, ry, sh))).1)) ∧ w = scW E s sg nm len tx a2 t2 ++ plW E p pK pL pQ pW pX pY pS (psF tx len 200 0 t (clrF (np, kd, lf, qt, wd, nr, rx, ry, sh))).2) := by
    intro f
    induction f with
    | zero =>
      intro i a t1 np1 nr1 kd1 lf1 qt1 wd1 rx1 ry1 sh1 h1 h2 hn1 hn hr h4
      rw [psF] at h4
      refine rr_iload_n 2 dX3_readInto_11 rfl ?_
      refine rr_sipush dX3_readInto_12 (by decide) ?_
      refine rr_icmp_ge 50 dX3_readInto_15 (by decide) (by omega) (by omega) (fun c_1 => ?_) (fun c_1 => ?_)
      · skip
        refine rr_bipush dX3_readInto_50 (by decide) ?_
        exact rr_iret dX3_readInto_52 rfl rfl ⟨a, t1, hn1, by rw [← h4], by rw [← h4]; rfl⟩
      · skip
        exfalso; omega
    | succ f ih =>
      intro i a t1 np1 nr1 kd1 lf1 qt1 wd1 rx1 ry1 sh1 h1 h2 hn1 hn hr h4
      rw [psF] at h4
      refine rr_iload_n 2 dX3_readInto_11 rfl ?_
      refine rr_sipush dX3_readInto_12 (by decide) ?_
      refine rr_icmp_ge 50 dX3_readInto_15 (by decide) (by omega) (by omega) (fun c_2 => ?_) (fun c_2 => ?_)
      · skip
        exfalso; omega
      · skip
        refine rr_aload_n 0 dX3_readInto_18 rfl ?_
        refine rr_get fX3_28 0 rfl rfl dX3_readInto_19 ?_
        refine rr_aload_n 0 dX3_readInto_22 rfl ?_
        refine rr_get fX3_19 0 rfl rfl dX3_readInto_23 ?_
        refine rr_icmp_ge 50 dX3_readInto_26 (by decide) (by omega) (by omega) (fun c_3 => ?_) (fun c_3 => ?_)
        · skip
          refine rr_bipush dX3_readInto_50 (by decide) ?_
          exact rr_iret dX3_readInto_52 rfl rfl ⟨a, t1, hn1, by rw [← h4, if_neg (by omega)], by rw [← h4, if_neg (by omega)]; rfl⟩
        · skip
          refine rr_aload_n 0 dX3_readInto_29 rfl ?_
          refine rr_get fX3_28 0 rfl rfl dX3_readInto_30 ?_
          refine rr_istore_n (lv2 := [(0, .ref s), (1, .ref p), (2, .int (zz ↑i)), (3, .int (zz ↑a))]) dX3_readInto_33 (by decide) rfl ?_
          refine rr_aload_n 0 dX3_readInto_34 rfl ?_
          refine rr_aload_n 1 dX3_readInto_35 rfl ?_
          rw [if_pos (by omega)] at h4
          refine rr_call (wr := []) (call_V (q0 := 0) kX3_31 (c_readItem E (d + 0) s sg nm len tx a t1 p pK pL pQ pW pX pY pS np1 nr1 kd1 lf1 qt1 wd1 rx1 ry1 sh1 htx (by omega) hn1 hn hr) rfl rfl rfl rfl (by omega) (by decide) (Nat.le_of_ble_eq_true rfl) (Nat.le_of_ble_eq_true rfl) dX3_readInto_36) [0, 1, 2, 3, 4, 5, 6, 7, 8, 9, 10] [] rfl rfl rfl rfl rfl (Nat.zero_le _) (Nat.zero_le _) (fun v w1 hp => ?_)
          cases hit : itF tx len a t1 (np1, kd1, lf1, qt1, wd1, nr1, rx1, ry1, sh1) with
          | none =>
            rw [hit] at hp h4
            obtain ⟨rfl, a2, t2, hn2, rfl⟩ := hp
            refine RR.eq (st2 := [.int (zz 0)]) (ws2 := [(s, ob 3 [.ref sg, .ref nm, .int (zz ↑len), .int (zz ↑a2)]), (sg, aC E 200 tx), (nm, aI E 4 t2), (p, ob 2 [.ref pK, .ref pL, .ref pQ, .ref pW, .ref pX, .ref pY, .ref pS, .int (zz ↑np1), .int (zz ↑nr1)]), (pK, aI E 7 kd1), (pL, aI E 7 lf1), (pQ, aI E 7 qt1), (pW, aI E 10 wd1), (pX, aI E 6 rx1), (pY, aI E 6 ry1), (pS, hO sh1)]) rfl rfl rfl rfl ?_
            refine rr_if_ne 44 dX3_readInto_39 (by decide) (by omega) (fun c_4 => ?_) (fun c_4 => ?_)
            · skip
              exfalso; omega
            · skip
              refine rr_iload_n 3 dX3_readInto_42 rfl ?_
              exact rr_iret dX3_readInto_43 rfl rfl ⟨a2, t2, hn2, by rw [← h4], by rw [← h4]; rfl⟩
          | some x =>
            rw [hit] at hp h4
            have hs := itF_some hit hn hr
            obtain ⟨⟨np2, kd2, lf2, qt2, wd2, nr2, rx2, ry2, sh2⟩, a2, t2⟩ := x
            obtain ⟨rfl, hn2, rfl⟩ := hp
            dsimp only at hs h4 hn2
            refine RR.eq (st2 := [.int (zz 1)]) (ws2 := [(s, ob 3 [.ref sg, .ref nm, .int (zz ↑len), .int (zz ↑a2)]), (sg, aC E 200 tx), (nm, aI E 4 t2), (p, ob 2 [.ref pK, .ref pL, .ref pQ, .ref pW, .ref pX, .ref pY, .ref pS, .int (zz ↑np2), .int (zz ↑nr2)]), (pK, aI E 7 kd2), (pL, aI E 7 lf2), (pQ, aI E 7 qt2), (pW, aI E 10 wd2), (pX, aI E 6 rx2), (pY, aI E 6 ry2), (pS, hO sh2)]) rfl rfl rfl rfl ?_
            refine rr_if_ne 44 dX3_readInto_39 (by decide) (by omega) (fun c_5 => ?_) (fun c_5 => ?_)
            · skip
              refine rr_iinc (lv2 := [(0, .ref s), (1, .ref p), (2, .int (zz (↑(i + 1)))), (3, .int (zz ↑a))]) 2 dX3_readInto_44 rfl (by decide) rfl ?_
              refine rr_goto 11 dX3_readInto_47 (by decide) ?_
              refine RR.lv [0, 1, 2] rfl ?_
              exact ih (i + 1) a2 t2 np2 nr2 kd2 lf2 qt2 wd2 rx2 ry2 sh2 (by omega) (by omega) hn2 hs.1 hs.2.1 h4
            · skip
              exfalso; omega
  refine rr_aload_n 1 dX3_readInto_0 rfl ?_
  refine rr_callFv (ws2 := [(s, ob 3 [.ref sg, .ref nm, .int (zz ↑len), .int (zz ↑at_)]), (sg, aC E 200 tx), (nm, aI E 4 t), (p, ob 2 [.ref pK, .ref pL, .ref pQ, .ref pW, .ref pX, .ref pY, .ref pS, .int (zz 0), .int (zz 0)]), (pK, aI E 7 kd), (pL, aI E 7 lf), (pQ, aI E 7 qt), (pW, aI E 10 (fillI wd 10 4)), (pX, aI E 6 rx), (pY, aI E 6 ry), (pS, hO (updI (updI (updI (updI (updI sh 0 5) 1 5) 2 3) 3 0) 5 1))]) (wr := [(s, ob 3 [.ref sg, .ref nm, .int (zz ↑len), .int (zz ↑at_)]), (sg, aC E 200 tx), (nm, aI E 4 t), (pK, aI E 7 kd), (pL, aI E 7 lf), (pQ, aI E 7 qt), (pX, aI E 6 rx), (pY, aI E 6 ry)]) (call_V (q0 := 0) kX3_23 (c_clear E (d + 2) p pK pL pQ pW pX pY pS np nr wd sh) rfl rfl rfl rfl (by omega) (by decide) (Nat.le_of_ble_eq_true rfl) (Nat.le_of_ble_eq_true rfl) dX3_readInto_1) [3, 7, 10] [0, 1, 2, 4, 5, 6, 8, 9] [0, 1, 2, 8, 3, 4, 5, 9, 6, 7, 10] rfl rfl rfl rfl rfl rfl rfl ?_
  refine rr_aload_n 0 dX3_readInto_4 rfl ?_
  refine rr_iconst dX3_readInto_5 ?_
  refine rr_put (ws2 := [(s, ob 3 [.ref sg, .ref nm, .int (zz ↑len), .int (zz 0)]), (sg, aC E 200 tx), (nm, aI E 4 t), (p, ob 2 [.ref pK, .ref pL, .ref pQ, .ref pW, .ref pX, .ref pY, .ref pS, .int (zz 0), .int (zz 0)]), (pK, aI E 7 kd), (pL, aI E 7 lf), (pQ, aI E 7 qt), (pW, aI E 10 (fillI wd 10 4)), (pX, aI E 6 rx), (pY, aI E 6 ry), (pS, hO (updI (updI (updI (updI (updI sh 0 5) 1 5) 2 3) 3 0) 5 1))]) fX3_28 0 rfl rfl rfl (Nat.le_of_ble_eq_true rfl) rfl dX3_readInto_6 ?_
  refine rr_iconst dX3_readInto_9 ?_
  refine rr_istore_n (lv2 := [(0, .ref s), (1, .ref p), (2, .int (zz 0))]) dX3_readInto_10 (by decide) rfl ?_
  exact lp 200 0 0 t 0 0 kd lf qt (fillI wd 10 4) rx ry (updI (updI (updI (updI (updI sh 0 5) 1 5) 2 3) 3 0) 5 1) (by omega) (by omega) hnm (by omega) (by omega) rfl
