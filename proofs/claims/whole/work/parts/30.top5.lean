set_option maxRecDepth 100000 in
set_option maxHeartbeats 400000 in
theorem c_landings (E : Ev) (p pK pL pQ pW pX pY pS : Nat) (np nr : Nat) (o fl ln mt fr : Nat) (Q : Qu) (kd lf qt wd rx ry : Nat → Int) (rd : Int) (hp : pOK np kd lf qt wd) (hr : rOK nr rx ry) (hrd : 1 ≤ rd ∧ rd ≤ 2) : ∀ (l d : Nat) (f : Nat → Int) (pl : Nat), l ≤ 5 → f 5 = rd → pl < 8000 → SP E mX6_landings (d + l + 5) 0 0 [.ref o, .int (zz (pl : Int)), .int (zz (l : Int))] [(o, ob 1 [.ref p, .ref fl, .ref ln, .ref mt, .int (zz ↑fr), .int (zz (↑(Q.length)))]), (fl, hO f), (p, ob 2 [.ref pK, .ref pL, .ref pQ, .ref pW, .ref pX, .ref pY, .ref pS, .int (zz ↑np), .int (zz ↑nr)]), (pK, aI E 7 kd), (pL, aI E 7 lf), (pQ, aI E 7 qt), (pW, aI E 10 wd), (pX, aI E 6 rx), (pY, aI E 6 ry)] (fun v w => v = some (.int (zz ((lndF (nxF np kd lf qt wd rd) (lpF nr rx ry) np l pl : Nat) : Int))) ∧ ∃ f2 : Nat → Int, f2 5 = rd ∧ w = [(o, ob 1 [.ref p, .ref fl, .ref ln, .ref mt, .int (zz ↑fr), .int (zz (↑(Q.length)))]), (fl, hO f2), (p, ob 2 [.ref pK, .ref pL, .ref pQ, .ref pW, .ref pX, .ref pY, .ref pS, .int (zz ↑np), .int (zz ↑nr)]), (pK, aI E 7 kd), (pL, aI E 7 lf), (pQ, aI E 7 qt), (pW, aI E 10 wd), (pX, aI E 6 rx), (pY, aI E 6 ry)]) := by
  have hn := hp.1
  intro l
  induction l with
  | zero =>
    intro d f pl hl hf hpl
    show RR E mX6_landings (d + 0 + 5) 0 0 0 [(0, .ref o), (1, .int (zz ↑pl)), (2, .int (zz 0))] [] [(o, ob 1 [.ref p, .ref fl, .ref ln, .ref mt, .int (zz ↑fr), .int (zz (↑(Q.length)))]), (fl, hO f), (p, ob 2 [.ref pK, .ref pL, .ref pQ, .ref pW, .ref pX, .ref pY, .ref pS, .int (zz ↑np), .int (zz ↑nr)]), (pK, aI E 7 kd), (pL, aI E 7 lf), (pQ, aI E 7 qt), (pW, aI E 10 wd), (pX, aI E 6 rx), (pY, aI E 6 ry)] (fun v w => v = some (.int (zz ((lndF (nxF np kd lf qt wd rd) (lpF nr rx ry) np 0 pl : Nat) : Int))) ∧ ∃ f2 : Nat → Int, f2 5 = rd ∧ w = [(o, ob 1 [.ref p, .ref fl, .ref ln, .ref mt, .int (zz ↑fr), .int (zz (↑(Q.length)))]), (fl, hO f2), (p, ob 2 [.ref pK, .ref pL, .ref pQ, .ref pW, .ref pX, .ref pY, .ref pS, .int (zz ↑np), .int (zz ↑nr)]), (pK, aI E 7 kd), (pL, aI E 7 lf), (pQ, aI E 7 qt), (pW, aI E 10 wd), (pX, aI E 6 rx), (pY, aI E 6 ry)])
    refine rr_iload_n 1 dX6_landings_0 rfl ?_
    refine rr_callFi (ws2 := [(o, ob 1 [.ref p, .ref fl, .ref ln, .ref mt, .int (zz ↑fr), .int (zz (↑(Q.length)))]), (fl, hO f), (p, ob 2 [.ref pK, .ref pL, .ref pQ, .ref pW, .ref pX, .ref pY, .ref pS, .int (zz ↑np), .int (zz ↑nr)]), (pK, aI E 7 kd), (pL, aI E 7 lf), (pQ, aI E 7 qt), (pW, aI E 10 wd), (pX, aI E 6 rx), (pY, aI E 6 ry)]) (wr := [(o, ob 1 [.ref p, .ref fl, .ref ln, .ref mt, .int (zz ↑fr), .int (zz (↑(Q.length)))]), (fl, hO f), (p, ob 2 [.ref pK, .ref pL, .ref pQ, .ref pW, .ref pX, .ref pY, .ref pS, .int (zz ↑np), .int (zz ↑nr)]), (pK, aI E 7 kd), (pL, aI E 7 lf), (pQ, aI E 7 qt), (pW, aI E 10 wd), (pX, aI E 6 rx), (pY, aI E 6 ry)]) (call_S kX6_247 (c_heightOf E (d + 0 + 4) pl (by omega)) rfl (by omega) (by decide) (Nat.le_of_ble_eq_true rfl) (Nat.le_of_ble_eq_true rfl) dX6_landings_1) [] [0, 1, 2, 3, 4, 5, 6, 7, 8] [0, 1, 2, 3, 4, 5, 6, 7, 8] rfl rfl rfl rfl rfl rfl rfl ?_
    refine rr_if_ne 31 dX6_landings_4 (by decide) (by omega) (fun c_1 => ?_) (fun c_1 => ?_)
    · skip
      refine rr_iload_n 2 dX6_landings_31 rfl ?_
      refine rr_iconst dX6_landings_32 ?_
      refine rr_icmp_lt 42 dX6_landings_33 (by decide) (by omega) (by omega) (fun c_2 => ?_) (fun c_2 => ?_)
      · skip
        refine rr_iconst dX6_landings_42 ?_
        exact rr_iret dX6_landings_43 rfl rfl ⟨congrArg (fun z => some (Value.int (zz z))) (by rw [lndF, if_neg (by omega)]; rfl), f, hf, rfl⟩
      · skip
        exfalso; omega
    · skip
      refine rr_aload_n 0 dX6_landings_7 rfl ?_
      refine rr_iload_n 1 dX6_landings_8 rfl ?_
      refine rr_callFi (ws2 := [(o, ob 1 [.ref p, .ref fl, .ref ln, .ref mt, .int (zz ↑fr), .int (zz (↑(Q.length)))]), (fl, hO (stF (fdF kd np 0) f pl)), (p, ob 2 [.ref pK, .ref pL, .ref pQ, .ref pW, .ref pX, .ref pY, .ref pS, .int (zz ↑np), .int (zz ↑nr)]), (pK, aI E 7 kd), (pL, aI E 7 lf), (pQ, aI E 7 qt), (pW, aI E 10 wd), (pX, aI E 6 rx), (pY, aI E 6 ry)]) (wr := [(pL, aI E 7 lf), (pQ, aI E 7 qt), (pW, aI E 10 wd)]) (call_V (q0 := 0) kX6_250 (c_isLanding E (d + 0 + 2) p pK pL pQ pW pX pY pS np nr o fl ln mt fr Q kd lf qt wd rx ry f pl hp hr (by omega) (by omega)) rfl rfl rfl rfl (by omega) (by decide) (Nat.le_of_ble_eq_true rfl) (Nat.le_of_ble_eq_true rfl) dX6_landings_9) [0, 1, 2, 3, 7, 8] [4, 5, 6] [3, 4, 5, 6, 0, 1, 2, 7, 8] rfl rfl rfl rfl rfl rfl rfl ?_
      refine rr_if_eqB 29 dX6_landings_12 (by decide) (fun hb => ?_) (fun hb => ?_)
      · skip
        refine rr_iconst dX6_landings_29 ?_
        exact rr_iret dX6_landings_30 rfl rfl ⟨congrArg (fun z => some (Value.int (zz z))) (by rw [lndF, if_pos (by omega), if_neg (by unfold lpF; intro z; rw [z] at hb; simp at hb; omega)]; rfl), stF (fdF kd np 0) f pl, hf, rfl⟩
      · skip
        refine rr_aload_n 0 dX6_landings_15 rfl ?_
        refine rr_get fX6_253 0 rfl rfl dX6_landings_16 ?_
        refine rr_get fX6_97 2 rfl rfl dX6_landings_19 ?_
        refine rr_iload_n 2 dX6_landings_22 rfl ?_
        refine rr_callFi (ws2 := [(o, ob 1 [.ref p, .ref fl, .ref ln, .ref mt, .int (zz ↑fr), .int (zz (↑(Q.length)))]), (fl, hO (stF (fdF kd np 0) f pl)), (p, ob 2 [.ref pK, .ref pL, .ref pQ, .ref pW, .ref pX, .ref pY, .ref pS, .int (zz ↑np), .int (zz ↑nr)]), (pK, aI E 7 kd), (pL, aI E 7 lf), (pQ, aI E 7 qt), (pW, aI E 10 wd), (pX, aI E 6 rx), (pY, aI E 6 ry)]) (wr := [(o, ob 1 [.ref p, .ref fl, .ref ln, .ref mt, .int (zz ↑fr), .int (zz (↑(Q.length)))]), (fl, hO (stF (fdF kd np 0) f pl)), (p, ob 2 [.ref pK, .ref pL, .ref pQ, .ref pW, .ref pX, .ref pY, .ref pS, .int (zz ↑np), .int (zz ↑nr)]), (pK, aI E 7 kd), (pL, aI E 7 lf), (pQ, aI E 7 qt), (pW, aI E 10 wd), (pX, aI E 6 rx), (pY, aI E 6 ry)]) (call_S kX6_224 (c_power E (d + 0 + 4) np 0 (by omega)) rfl (by omega) (by decide) (Nat.le_of_ble_eq_true rfl) (Nat.le_of_ble_eq_true rfl) dX6_landings_23) [] [0, 1, 2, 3, 4, 5, 6, 7, 8] [0, 1, 2, 3, 4, 5, 6, 7, 8] rfl rfl rfl rfl rfl rfl rfl ?_
        refine rr_goto 30 dX6_landings_26 (by decide) ?_
        exact rr_iret dX6_landings_30 rfl rfl ⟨congrArg (fun z => some (Value.int (zz z))) (by rw [lndF, if_pos (by omega), if_pos (by unfold lpF; simp at hb; exact hb.2)]), stF (fdF kd np 0) f pl, hf, rfl⟩
  | succ l ih =>
    intro d f pl hl hf hpl
    show RR E mX6_landings (d + (l + 1) + 5) 0 0 0 [(0, .ref o), (1, .int (zz ↑pl)), (2, .int (zz (↑(l + 1))))] [] [(o, ob 1 [.ref p, .ref fl, .ref ln, .ref mt, .int (zz ↑fr), .int (zz (↑(Q.length)))]), (fl, hO f), (p, ob 2 [.ref pK, .ref pL, .ref pQ, .ref pW, .ref pX, .ref pY, .ref pS, .int (zz ↑np), .int (zz ↑nr)]), (pK, aI E 7 kd), (pL, aI E 7 lf), (pQ, aI E 7 qt), (pW, aI E 10 wd), (pX, aI E 6 rx), (pY, aI E 6 ry)] (fun v w => v = some (.int (zz ((lndF (nxF np kd lf qt wd rd) (lpF nr rx ry) np (l + 1) pl : Nat) : Int))) ∧ ∃ f2 : Nat → Int, f2 5 = rd ∧ w = [(o, ob 1 [.ref p, .ref fl, .ref ln, .ref mt, .int (zz ↑fr), .int (zz (↑(Q.length)))]), (fl, hO f2), (p, ob 2 [.ref pK, .ref pL, .ref pQ, .ref pW, .ref pX, .ref pY, .ref pS, .int (zz ↑np), .int (zz ↑nr)]), (pK, aI E 7 kd), (pL, aI E 7 lf), (pQ, aI E 7 qt), (pW, aI E 10 wd), (pX, aI E 6 rx), (pY, aI E 6 ry)])
    refine rr_iload_n 1 dX6_landings_0 rfl ?_
    refine rr_callFi (ws2 := [(o, ob 1 [.ref p, .ref fl, .ref ln, .ref mt, .int (zz ↑fr), .int (zz (↑(Q.length)))]), (fl, hO f), (p, ob 2 [.ref pK, .ref pL, .ref pQ, .ref pW, .ref pX, .ref pY, .ref pS, .int (zz ↑np), .int (zz ↑nr)]), (pK, aI E 7 kd), (pL, aI E 7 lf), (pQ, aI E 7 qt), (pW, aI E 10 wd), (pX, aI E 6 rx), (pY, aI E 6 ry)]) (wr := [(o, ob 1 [.ref p, .ref fl, .ref ln, .ref mt, .int (zz ↑fr), .int (zz (↑(Q.length)))]), (fl, hO f), (p, ob 2 [.ref pK, .ref pL, .ref pQ, .ref pW, .ref pX, .ref pY, .ref pS, .int (zz ↑np), .int (zz ↑nr)]), (pK, aI E 7 kd), (pL, aI E 7 lf), (pQ, aI E 7 qt), (pW, aI E 10 wd), (pX, aI E 6 rx), (pY, aI E 6 ry)]) (call_S kX6_247 (c_heightOf E (d + (l + 1) + 4) pl (by omega)) rfl (by omega) (by decide) (Nat.le_of_ble_eq_true rfl) (Nat.le_of_ble_eq_true rfl) dX6_landings_1) [] [0, 1, 2, 3, 4, 5, 6, 7, 8] [0, 1, 2, 3, 4, 5, 6, 7, 8] rfl rfl rfl rfl rfl rfl rfl ?_
    refine rr_if_ne 31 dX6_landings_4 (by decide) (by omega) (fun c_3 => ?_) (fun c_3 => ?_)
    · skip
      refine rr_iload_n 2 dX6_landings_31 rfl ?_
      refine rr_iconst dX6_landings_32 ?_
      refine rr_icmp_lt 42 dX6_landings_33 (by decide) (by omega) (by omega) (fun c_4 => ?_) (fun c_4 => ?_)
      · skip
        exfalso; omega
      · skip
        refine rr_iload_n 2 dX6_landings_36 rfl ?_
        refine rr_bipush dX6_landings_37 (by decide) ?_
        refine rr_icmp_le 44 dX6_landings_39 (by decide) (by omega) (by omega) (fun c_5 => ?_) (fun c_5 => ?_)
        · skip
          refine rr_iconst dX6_landings_44 ?_
          refine rr_istore_n (lv2 := [(0, .ref o), (1, .int (zz ↑pl)), (2, .int (zz (↑(l + 1)))), (3, .int (zz 0))]) dX6_landings_45 (by decide) rfl ?_
          refine rr_iconst dX6_landings_46 ?_
          refine rr_istore (lv2 := [(0, .ref o), (1, .int (zz ↑pl)), (2, .int (zz (↑(l + 1)))), (3, .int (zz 0)), (4, .int (zz 0))]) dX6_landings_47 (by decide) rfl ?_
          have lp : ∀ (n i : Nat) (f1 : Nat → Int), i + n = np → f1 5 = rd → RR E mX6_landings (d + (l + 1) + 5) 0 0 49 [(0, .ref o), (1, .int (zz ↑pl)), (2, .int (zz (↑(l + 1)))), (3, .int (zz ((sumTo (fun k => lndF (nxF np kd lf qt wd rd) (lpF nr rx ry) np l ((nxF np kd lf qt wd rd) pl k)) i : Nat) : Int))), (4, .int (zz ↑i))] [] [(o, ob 1 [.ref p, .ref fl, .ref ln, .ref mt, .int (zz ↑fr), .int (zz (↑(Q.length)))]), (fl, hO f1), (p, ob 2 [.ref pK, .ref pL, .ref pQ, .ref pW, .ref pX, .ref pY, .ref pS, .int (zz ↑np), .int (zz ↑nr)]), (pK, aI E 7 kd), (pL, aI E 7 lf), (pQ, aI E 7 qt), (pW, aI E 10 wd), (pX, aI E 6 rx), (pY, aI E 6 ry)] (fun v w => v = some (.int (zz ((lndF (nxF np kd lf qt wd rd) (lpF nr rx ry) np (l + 1) pl : Nat) : Int))) ∧ ∃ f2 : Nat → Int, f2 5 = rd ∧ w = [(o, ob 1 [.ref p, .ref fl, .ref ln, .ref mt, .int (zz ↑fr), .int (zz (↑(Q.length)))]), (fl, hO f2), (p, ob 2 [.ref pK, .ref pL, .ref pQ, .ref pW, .ref pX, .ref pY, .ref pS, .int (zz ↑np), .int (zz ↑nr)]), (pK, aI E 7 kd), (pL, aI E 7 lf), (pQ, aI E 7 qt), (pW, aI E 10 wd), (pX, aI E 6 rx), (pY, aI E 6 ry)]) := by
            intro n
            induction n with
            | zero =>
              intro i f1 h1 h5
              obtain rfl : i = np := by omega
              refine rr_iload 4 dX6_landings_49 rfl ?_
              refine rr_aload_n 0 dX6_landings_51 rfl ?_
              refine rr_get fX6_253 0 rfl rfl dX6_landings_52 ?_
              refine rr_get fX6_97 2 rfl rfl dX6_landings_55 ?_
              refine rr_icmp_ge 84 dX6_landings_58 (by decide) (by omega) (by omega) (fun c_6 => ?_) (fun c_6 => ?_)
              · skip
                refine rr_iload_n 3 dX6_landings_84 rfl ?_
                exact rr_iret dX6_landings_85 rfl rfl ⟨congrArg (fun z => some (Value.int (zz z))) (by rw [lndF, if_neg (by omega)]), f1, h5, rfl⟩
              · skip
                exfalso; omega
            | succ n ih2 =>
              intro i f1 h1 h5
              have hi : i < np := by omega
              have hnl := nxF_lt (rd := rd) hp hrd hpl hi
              refine rr_iload 4 dX6_landings_49 rfl ?_
              refine rr_aload_n 0 dX6_landings_51 rfl ?_
              refine rr_get fX6_253 0 rfl rfl dX6_landings_52 ?_
              refine rr_get fX6_97 2 rfl rfl dX6_landings_55 ?_
              refine rr_icmp_ge 84 dX6_landings_58 (by decide) (by omega) (by omega) (fun c_7 => ?_) (fun c_7 => ?_)
              · skip
                exfalso; omega
              · skip
                refine rr_iload_n 3 dX6_landings_61 rfl ?_
                refine rr_aload_n 0 dX6_landings_62 rfl ?_
                refine rr_aload_n 0 dX6_landings_63 rfl ?_
                refine rr_iload_n 1 dX6_landings_64 rfl ?_
                refine rr_iload 4 dX6_landings_65 rfl ?_
                refine rr_callFi (ws2 := [(o, ob 1 [.ref p, .ref fl, .ref ln, .ref mt, .int (zz ↑fr), .int (zz (↑(Q.length)))]), (fl, hO (tnF np kd lf qt wd (stF (fdF kd np 0) f1 pl) i)), (p, ob 2 [.ref pK, .ref pL, .ref pQ, .ref pW, .ref pX, .ref pY, .ref pS, .int (zz ↑np), .int (zz ↑nr)]), (pK, aI E 7 kd), (pL, aI E 7 lf), (pQ, aI E 7 qt), (pW, aI E 10 wd), (pX, aI E 6 rx), (pY, aI E 6 ry)]) (wr := [(pX, aI E 6 rx), (pY, aI E 6 ry)]) (call_V (q0 := 0) kX6_254 (c_after E (d + (l + 1) + 0) p pK pL pQ pW pX pY pS np nr o fl ln mt fr Q kd lf qt wd f1 pl i hp (by omega) (by omega) (by omega)) rfl rfl rfl rfl (by omega) (by decide) (Nat.le_of_ble_eq_true rfl) (Nat.le_of_ble_eq_true rfl) dX6_landings_67) [0, 1, 2, 3, 4, 5, 6] [7, 8] [2, 3, 4, 5, 6, 7, 8, 0, 1] rfl rfl rfl rfl rfl rfl rfl ?_
                refine rr_top (b := ↑(nxF np kd lf qt wd rd pl i)) (by rw [h5]) ?_
                refine rr_iload_n 2 dX6_landings_70 rfl ?_
                refine rr_iconst dX6_landings_71 ?_
                refine rr_isub dX6_landings_72 ?_
                refine rr_top (b := ↑l) (by omega) ?_
                refine rr_call (wr := []) (call_S kX6_220 (ih d (tnF np kd lf qt wd (stF (fdF kd np 0) f1 pl) i) (nxF np kd lf qt wd rd pl i) (by omega) h5 hnl) rfl (by omega) (by decide) (Nat.le_of_ble_eq_true rfl) (Nat.le_of_ble_eq_true rfl) dX6_landings_73) [0, 1, 2, 3, 4, 5, 6, 7, 8] [] rfl rfl rfl rfl rfl (Nat.zero_le _) (Nat.zero_le _) (fun v w1 hp1 => ?_)
                obtain ⟨rfl, f3, h53, rfl⟩ := hp1
                refine RR.eq (st2 := [.int (zz ((lndF (nxF np kd lf qt wd rd) (lpF nr rx ry) np l (nxF np kd lf qt wd rd pl i) : Nat) : Int)), .int (zz ((sumTo (fun k => lndF (nxF np kd lf qt wd rd) (lpF nr rx ry) np l ((nxF np kd lf qt wd rd) pl k)) i : Nat) : Int))]) (ws2 := [(o, ob 1 [.ref p, .ref fl, .ref ln, .ref mt, .int (zz ↑fr), .int (zz (↑(Q.length)))]), (fl, hO f3), (p, ob 2 [.ref pK, .ref pL, .ref pQ, .ref pW, .ref pX, .ref pY, .ref pS, .int (zz ↑np), .int (zz ↑nr)]), (pK, aI E 7 kd), (pL, aI E 7 lf), (pQ, aI E 7 qt), (pW, aI E 10 wd), (pX, aI E 6 rx), (pY, aI E 6 ry)]) rfl rfl rfl rfl ?_
                refine rr_iadd dX6_landings_76 ?_
                refine rr_top (b := ((sumTo (fun k => lndF (nxF np kd lf qt wd rd) (lpF nr rx ry) np l ((nxF np kd lf qt wd rd) pl k)) (i + 1) : Nat) : Int)) (by rw [sumTo, Int.natCast_add]) ?_
                refine rr_istore_n (lv2 := [(0, .ref o), (1, .int (zz ↑pl)), (2, .int (zz (↑(l + 1)))), (3, .int (zz ((sumTo (fun k => lndF (nxF np kd lf qt wd rd) (lpF nr rx ry) np l ((nxF np kd lf qt wd rd) pl k)) (i + 1) : Nat) : Int))), (4, .int (zz ↑i))]) dX6_landings_77 (by decide) rfl ?_
                refine rr_iinc (lv2 := [(0, .ref o), (1, .int (zz ↑pl)), (2, .int (zz (↑(l + 1)))), (3, .int (zz ((sumTo (fun k => lndF (nxF np kd lf qt wd rd) (lpF nr rx ry) np l ((nxF np kd lf qt wd rd) pl k)) (i + 1) : Nat) : Int))), (4, .int (zz (↑(i + 1))))]) 4 dX6_landings_78 rfl (by decide) rfl ?_
                refine rr_goto 49 dX6_landings_81 (by decide) ?_
                exact ih2 (i + 1) f3 (by omega) h53
          exact lp np 0 f (by omega) hf
        · skip
          exfalso; omega
    · skip
      refine rr_aload_n 0 dX6_landings_7 rfl ?_
      refine rr_iload_n 1 dX6_landings_8 rfl ?_
      refine rr_callFi (ws2 := [(o, ob 1 [.ref p, .ref fl, .ref ln, .ref mt, .int (zz ↑fr), .int (zz (↑(Q.length)))]), (fl, hO (stF (fdF kd np 0) f pl)), (p, ob 2 [.ref pK, .ref pL, .ref pQ, .ref pW, .ref pX, .ref pY, .ref pS, .int (zz ↑np), .int (zz ↑nr)]), (pK, aI E 7 kd), (pL, aI E 7 lf), (pQ, aI E 7 qt), (pW, aI E 10 wd), (pX, aI E 6 rx), (pY, aI E 6 ry)]) (wr := [(pL, aI E 7 lf), (pQ, aI E 7 qt), (pW, aI E 10 wd)]) (call_V (q0 := 0) kX6_250 (c_isLanding E (d + (l + 1) + 2) p pK pL pQ pW pX pY pS np nr o fl ln mt fr Q kd lf qt wd rx ry f pl hp hr (by omega) (by omega)) rfl rfl rfl rfl (by omega) (by decide) (Nat.le_of_ble_eq_true rfl) (Nat.le_of_ble_eq_true rfl) dX6_landings_9) [0, 1, 2, 3, 7, 8] [4, 5, 6] [3, 4, 5, 6, 0, 1, 2, 7, 8] rfl rfl rfl rfl rfl rfl rfl ?_
      refine rr_if_eqB 29 dX6_landings_12 (by decide) (fun hb => ?_) (fun hb => ?_)
      · skip
        refine rr_iconst dX6_landings_29 ?_
        exact rr_iret dX6_landings_30 rfl rfl ⟨congrArg (fun z => some (Value.int (zz z))) (by rw [lndF, if_pos (by omega), if_neg (by unfold lpF; intro z; rw [z] at hb; simp at hb; omega)]; rfl), stF (fdF kd np 0) f pl, hf, rfl⟩
      · skip
        refine rr_aload_n 0 dX6_landings_15 rfl ?_
        refine rr_get fX6_253 0 rfl rfl dX6_landings_16 ?_
        refine rr_get fX6_97 2 rfl rfl dX6_landings_19 ?_
        refine rr_iload_n 2 dX6_landings_22 rfl ?_
        refine rr_callFi (ws2 := [(o, ob 1 [.ref p, .ref fl, .ref ln, .ref mt, .int (zz ↑fr), .int (zz (↑(Q.length)))]), (fl, hO (stF (fdF kd np 0) f pl)), (p, ob 2 [.ref pK, .ref pL, .ref pQ, .ref pW, .ref pX, .ref pY, .ref pS, .int (zz ↑np), .int (zz ↑nr)]), (pK, aI E 7 kd), (pL, aI E 7 lf), (pQ, aI E 7 qt), (pW, aI E 10 wd), (pX, aI E 6 rx), (pY, aI E 6 ry)]) (wr := [(o, ob 1 [.ref p, .ref fl, .ref ln, .ref mt, .int (zz ↑fr), .int (zz (↑(Q.length)))]), (fl, hO (stF (fdF kd np 0) f pl)), (p, ob 2 [.ref pK, .ref pL, .ref pQ, .ref pW, .ref pX, .ref pY, .ref pS, .int (zz ↑np), .int (zz ↑nr)]), (pK, aI E 7 kd), (pL, aI E 7 lf), (pQ, aI E 7 qt), (pW, aI E 10 wd), (pX, aI E 6 rx), (pY, aI E 6 ry)]) (call_S kX6_224 (c_power E (d + (l + 1) + 4) np (l + 1) (by omega)) rfl (by omega) (by decide) (Nat.le_of_ble_eq_true rfl) (Nat.le_of_ble_eq_true rfl) dX6_landings_23) [] [0, 1, 2, 3, 4, 5, 6, 7, 8] [0, 1, 2, 3, 4, 5, 6, 7, 8] rfl rfl rfl rfl rfl rfl rfl ?_
        refine rr_goto 30 dX6_landings_26 (by decide) ?_
        exact rr_iret dX6_landings_30 rfl rfl ⟨congrArg (fun z => some (Value.int (zz z))) (by rw [lndF, if_pos (by omega), if_pos (by unfold lpF; simp at hb; exact hb.2)]), stF (fdF kd np 0) f pl, hf, rfl⟩
set_option maxRecDepth 100000 in
set_option maxHeartbeats 400000 in
theorem c_likely_bad (E : Ev) (d : Nat) (x s p z a b c f k q o : Nat) (y w : Int) (gy : -2147483648 ≤ y ∧ y < 2147483648) (gw : -2147483648 ≤ w ∧ w < 2147483648) (hc : ¬ ((0 ≤ y ∧ y ≤ 5) ∧ 0 ≤ w ∧ w ≤ 1)) : SP E mX6_likely (d + 6) 0 0 [.ref x, .int (zz y), .int (zz w)] [(x, ob 6 [.ref s, .ref p, .ref z, .ref a, .ref b, .ref c, .ref f, .ref k, .ref q, .ref o])] (FP (some (.int (zz (-1)))) [(x, ob 6 [.ref s, .ref p, .ref z, .ref a, .ref b, .ref c, .ref f, .ref k, .ref q, .ref o])]) := by
  show RR E mX6_likely (d + 6) 0 0 0 [(0, .ref x), (1, .int (zz y)), (2, .int (zz w))] [] [(x, ob 6 [.ref s, .ref p, .ref z, .ref a, .ref b, .ref c, .ref f, .ref k, .ref q, .ref o])] (FP (some (.int (zz (-1)))) [(x, ob 6 [.ref s, .ref p, .ref z, .ref a, .ref b, .ref c, .ref f, .ref k, .ref q, .ref o])])
  refine rr_iload_n 1 dX6_likely_0 rfl ?_
  refine rr_if_lt 18 dX6_likely_1 (by decide) (by omega) (fun c_1 => ?_) (fun c_1 => ?_)
  · skip
    refine rr_iconst dX6_likely_18 ?_
    exact rr_iret dX6_likely_19 rfl rfl ⟨rfl, rfl⟩
  · skip
    refine rr_iload_n 1 dX6_likely_4 rfl ?_
    refine rr_iconst dX6_likely_5 ?_
    refine rr_icmp_gt 18 dX6_likely_6 (by decide) (by omega) (by omega) (fun c_2 => ?_) (fun c_2 => ?_)
    · skip
      refine rr_iconst dX6_likely_18 ?_
      exact rr_iret dX6_likely_19 rfl rfl ⟨rfl, rfl⟩
    · skip
      refine rr_iload_n 2 dX6_likely_9 rfl ?_
      refine rr_if_lt 18 dX6_likely_10 (by decide) (by omega) (fun c_3 => ?_) (fun c_3 => ?_)
      · skip
        refine rr_iconst dX6_likely_18 ?_
        exact rr_iret dX6_likely_19 rfl rfl ⟨rfl, rfl⟩
      · skip
        refine rr_iload_n 2 dX6_likely_13 rfl ?_
        refine rr_iconst dX6_likely_14 ?_
        refine rr_icmp_le 20 dX6_likely_15 (by decide) (by omega) (by omega) (fun c_4 => ?_) (fun c_4 => ?_)
        · skip
          exfalso; omega
        · skip
          refine rr_iconst dX6_likely_18 ?_
          exact rr_iret dX6_likely_19 rfl rfl ⟨rfl, rfl⟩
set_option maxRecDepth 100000 in
set_option maxHeartbeats 400000 in
theorem c_likely_y (E : Ev) (d : Nat) (x s p z a b c f k q o : Nat) (pK pL pQ pW pX pY pS : Nat) (np nr : Nat) (fl ln mt fr : Nat) (Q : Qu) (rx ry kd lf qt wd h f0 : Nat → Int) (hp : pOK np kd lf qt wd) (ho : hOK h) (hr : rOK nr rx ry) (hnp : 1 ≤ np) (n : Nat) (w : Int) (hn5 : n ≤ 5) (hw : 0 ≤ w ∧ w ≤ 1) : SP E mX6_likely (d + 12) 0 0 [.ref x, .int (zz ↑n), .int (zz w)] [(x, ob 6 [.ref s, .ref p, .ref z, .ref a, .ref b, .ref c, .ref f, .ref k, .ref q, .ref o]), (o, ob 1 [.ref p, .ref fl, .ref ln, .ref mt, .int (zz ↑fr), .int (zz (↑(Q.length)))]), (fl, hO f0), (p, ob 2 [.ref pK, .ref pL, .ref pQ, .ref pW, .ref pX, .ref pY, .ref pS, .int (zz ↑np), .int (zz ↑nr)]), (pK, aI E 7 kd), (pL, aI E 7 lf), (pQ, aI E 7 qt), (pW, aI E 10 wd), (pX, aI E 6 rx), (pY, aI E 6 ry), (a, hO h)] (fun v w1 => v = some (.int (zz (likA (lndF (nxF np kd lf qt wd (h 5)) (lpF nr rx ry) np n (plN np kd h)) (np ^ n) w))) ∧ ∃ f2 : Nat → Int, w1 = [(x, ob 6 [.ref s, .ref p, .ref z, .ref a, .ref b, .ref c, .ref f, .ref k, .ref q, .ref o]), (o, ob 1 [.ref p, .ref fl, .ref ln, .ref mt, .int (zz ↑fr), .int (zz (↑(Q.length)))]), (fl, hO f2), (p, ob 2 [.ref pK, .ref pL, .ref pQ, .ref pW, .ref pX, .ref pY, .ref pS, .int (zz ↑np), .int (zz ↑nr)]), (pK, aI E 7 kd), (pL, aI E 7 lf), (pQ, aI E 7 qt), (pW, aI E 10 wd), (pX, aI E 6 rx), (pY, aI E 6 ry), (a, hO h)]) := by
  show RR E mX6_likely (d + 12) 0 0 0 [(0, .ref x), (1, .int (zz ↑n)), (2, .int (zz w))] [] [(x, ob 6 [.ref s, .ref p, .ref z, .ref a, .ref b, .ref c, .ref f, .ref k, .ref q, .ref o]), (o, ob 1 [.ref p, .ref fl, .ref ln, .ref mt, .int (zz ↑fr), .int (zz (↑(Q.length)))]), (fl, hO f0), (p, ob 2 [.ref pK, .ref pL, .ref pQ, .ref pW, .ref pX, .ref pY, .ref pS, .int (zz ↑np), .int (zz ↑nr)]), (pK, aI E 7 kd), (pL, aI E 7 lf), (pQ, aI E 7 qt), (pW, aI E 10 wd), (pX, aI E 6 rx), (pY, aI E 6 ry), (a, hO h)] (fun v w1 => v = some (.int (zz (likA (lndF (nxF np kd lf qt wd (h 5)) (lpF nr rx ry) np n (plN np kd h)) (np ^ n) w))) ∧ ∃ f2 : Nat → Int, w1 = [(x, ob 6 [.ref s, .ref p, .ref z, .ref a, .ref b, .ref c, .ref f, .ref k, .ref q, .ref o]), (o, ob 1 [.ref p, .ref fl, .ref ln, .ref mt, .int (zz ↑fr), .int (zz (↑(Q.length)))]), (fl, hO f2), (p, ob 2 [.ref pK, .ref pL, .ref pQ, .ref pW, .ref pX, .ref pY, .ref pS, .int (zz ↑np), .int (zz ↑nr)]), (pK, aI E 7 kd), (pL, aI E 7 lf), (pQ, aI E 7 qt), (pW, aI E 10 wd), (pX, aI E 6 rx), (pY, aI E 6 ry), (a, hO h)])
  obtain ⟨o0, o1, o2, o3, o5, o6⟩ := id ho
  have hn := hp.1
  have hpl := plN_lt (np := np) (kd := kd) ho
  have hB := pow_le5 hn hn5
  have hB0 : 0 < np ^ n := Nat.pow_pos (by omega)
  have hA := lndF_le (nxF np kd lf qt wd (h 5)) (lpF nr rx ry) np n (plN np kd h)
  obtain ⟨A, hAe⟩ : ∃ A, lndF (nxF np kd lf qt wd (h 5)) (lpF nr rx ry) np n (plN np kd h) = A := ⟨_, rfl⟩
  obtain ⟨B, hBe⟩ : ∃ B, np ^ n = B := ⟨_, rfl⟩
  rw [hAe, hBe] at hA
  rw [hBe] at hB hB0
  have hG := gcdF_le 64 A B B hA (Nat.le_refl B)
  have hG0 := gcdF_pos 64 A B (by omega) (by omega) (by omega)
  refine rr_iload_n 1 dX6_likely_0 rfl ?_
  refine rr_if_lt 18 dX6_likely_1 (by decide) (by omega) (fun c_1 => ?_) (fun c_1 => ?_)
  · skip
    exfalso; omega
  · skip
    refine rr_iload_n 1 dX6_likely_4 rfl ?_
    refine rr_iconst dX6_likely_5 ?_
    refine rr_icmp_gt 18 dX6_likely_6 (by decide) (by omega) (by omega) (fun c_2 => ?_) (fun c_2 => ?_)
    · skip
      exfalso; omega
    · skip
      refine rr_iload_n 2 dX6_likely_9 rfl ?_
      refine rr_if_lt 18 dX6_likely_10 (by decide) (by omega) (fun c_3 => ?_) (fun c_3 => ?_)
      · skip
        exfalso; omega
      · skip
        refine rr_iload_n 2 dX6_likely_13 rfl ?_
        refine rr_iconst dX6_likely_14 ?_
        refine rr_icmp_le 20 dX6_likely_15 (by decide) (by omega) (by omega) (fun c_4 => ?_) (fun c_4 => ?_)
        · skip
          refine rr_aload_n 0 dX6_likely_20 rfl ?_
          refine rr_get fX6_63 0 rfl rfl dX6_likely_21 ?_
          refine rr_aload_n 0 dX6_likely_24 rfl ?_
          refine rr_get fX6_63 0 rfl rfl dX6_likely_25 ?_
          refine rr_aload_n 0 dX6_likely_28 rfl ?_
          refine rr_get fX6_29 0 rfl rfl dX6_likely_29 ?_
          refine rr_callFi (ws2 := [(x, ob 6 [.ref s, .ref p, .ref z, .ref a, .ref b, .ref c, .ref f, .ref k, .ref q, .ref o]), (o, ob 1 [.ref p, .ref fl, .ref ln, .ref mt, .int (zz ↑fr), .int (zz (↑(Q.length)))]), (fl, hO (updI f0 5 (h 5))), (p, ob 2 [.ref pK, .ref pL, .ref pQ, .ref pW, .ref pX, .ref pY, .ref pS, .int (zz ↑np), .int (zz ↑nr)]), (pK, aI E 7 kd), (pL, aI E 7 lf), (pQ, aI E 7 qt), (pW, aI E 10 wd), (pX, aI E 6 rx), (pY, aI E 6 ry), (a, hO h)]) (wr := [(x, ob 6 [.ref s, .ref p, .ref z, .ref a, .ref b, .ref c, .ref f, .ref k, .ref q, .ref o]), (pL, aI E 7 lf), (pQ, aI E 7 qt), (pW, aI E 10 wd), (pX, aI E 6 rx), (pY, aI E 6 ry)]) (call_V (q0 := 0) kX6_216 (c_enter E (d + 8) p pK pL pQ pW pX pY pS np nr o fl ln mt fr Q a kd lf qt wd f0 h hp ho) rfl rfl rfl rfl (by omega) (by decide) (Nat.le_of_ble_eq_true rfl) (Nat.le_of_ble_eq_true rfl) dX6_likely_32) [1, 2, 3, 4, 10] [0, 5, 6, 7, 8, 9] [0, 6, 7, 8, 9, 1, 2, 3, 4, 5, 10] rfl rfl rfl rfl rfl rfl rfl ?_
          refine rr_iload_n 1 dX6_likely_35 rfl ?_
          refine rr_call (wr := [(x, ob 6 [.ref s, .ref p, .ref z, .ref a, .ref b, .ref c, .ref f, .ref k, .ref q, .ref o]), (a, hO h)]) (call_S kX6_220 (c_landings E p pK pL pQ pW pX pY pS np nr o fl ln mt fr Q kd lf qt wd rx ry (h 5) hp hr o5 n d (updI f0 5 (h 5)) (plN np kd h) hn5 rfl hpl) rfl (by omega) (by decide) (Nat.le_of_ble_eq_true rfl) (Nat.le_of_ble_eq_true rfl) dX6_likely_36) [1, 2, 3, 4, 5, 6, 7, 8, 9] [0, 10] rfl rfl rfl rfl rfl (Nat.zero_le _) (Nat.zero_le _) (fun v w1 hp1 => ?_)
          obtain ⟨rfl, f3, h53, rfl⟩ := hp1
          refine RR.eq (st2 := [.int (zz ((lndF (nxF np kd lf qt wd (h 5)) (lpF nr rx ry) np n (plN np kd h) : Nat) : Int))]) (ws2 := [(x, ob 6 [.ref s, .ref p, .ref z, .ref a, .ref b, .ref c, .ref f, .ref k, .ref q, .ref o]), (a, hO h), (o, ob 1 [.ref p, .ref fl, .ref ln, .ref mt, .int (zz ↑fr), .int (zz (↑(Q.length)))]), (fl, hO f3), (p, ob 2 [.ref pK, .ref pL, .ref pQ, .ref pW, .ref pX, .ref pY, .ref pS, .int (zz ↑np), .int (zz ↑nr)]), (pK, aI E 7 kd), (pL, aI E 7 lf), (pQ, aI E 7 qt), (pW, aI E 10 wd), (pX, aI E 6 rx), (pY, aI E 6 ry)]) rfl rfl rfl rfl ?_
          refine rr_top (b := ↑A) (by rw [hAe]) ?_
          refine rr_istore_n (lv2 := [(0, .ref x), (1, .int (zz ↑n)), (2, .int (zz w)), (3, .int (zz ↑A))]) dX6_likely_39 (by decide) rfl ?_
          refine rr_aload_n 0 dX6_likely_40 rfl ?_
          refine rr_get fX6_19 0 rfl rfl dX6_likely_41 ?_
          refine rr_get fX6_97 4 rfl rfl dX6_likely_44 ?_
          refine rr_iload_n 1 dX6_likely_47 rfl ?_
          refine rr_callFi (ws2 := [(x, ob 6 [.ref s, .ref p, .ref z, .ref a, .ref b, .ref c, .ref f, .ref k, .ref q, .ref o]), (a, hO h), (o, ob 1 [.ref p, .ref fl, .ref ln, .ref mt, .int (zz ↑fr), .int (zz (↑(Q.length)))]), (fl, hO f3), (p, ob 2 [.ref pK, .ref pL, .ref pQ, .ref pW, .ref pX, .ref pY, .ref pS, .int (zz ↑np), .int (zz ↑nr)]), (pK, aI E 7 kd), (pL, aI E 7 lf), (pQ, aI E 7 qt), (pW, aI E 10 wd), (pX, aI E 6 rx), (pY, aI E 6 ry)]) (wr := [(x, ob 6 [.ref s, .ref p, .ref z, .ref a, .ref b, .ref c, .ref f, .ref k, .ref q, .ref o]), (a, hO h), (o, ob 1 [.ref p, .ref fl, .ref ln, .ref mt, .int (zz ↑fr), .int (zz (↑(Q.length)))]), (fl, hO f3), (p, ob 2 [.ref pK, .ref pL, .ref pQ, .ref pW, .ref pX, .ref pY, .ref pS, .int (zz ↑np), .int (zz ↑nr)]), (pK, aI E 7 kd), (pL, aI E 7 lf), (pQ, aI E 7 qt), (pW, aI E 10 wd), (pX, aI E 6 rx), (pY, aI E 6 ry)]) (call_S kX6_224 (c_power E (d + 11) np n (by omega)) rfl (by omega) (by decide) (Nat.le_of_ble_eq_true rfl) (Nat.le_of_ble_eq_true rfl) dX6_likely_48) [] [0, 1, 2, 3, 4, 5, 6, 7, 8, 9, 10] [0, 1, 2, 3, 4, 5, 6, 7, 8, 9, 10] rfl rfl rfl rfl rfl rfl rfl ?_
          refine rr_top (b := ↑B) (by rw [hBe]) ?_
          refine rr_istore (lv2 := [(0, .ref x), (1, .int (zz ↑n)), (2, .int (zz w)), (3, .int (zz ↑A)), (4, .int (zz ↑B))]) dX6_likely_51 (by decide) rfl ?_
          refine rr_iload_n 3 dX6_likely_53 rfl ?_
          refine rr_iload 4 dX6_likely_54 rfl ?_
          refine rr_callFi (ws2 := [(x, ob 6 [.ref s, .ref p, .ref z, .ref a, .ref b, .ref c, .ref f, .ref k, .ref q, .ref o]), (a, hO h), (o, ob 1 [.ref p, .ref fl, .ref ln, .ref mt, .int (zz ↑fr), .int (zz (↑(Q.length)))]), (fl, hO f3), (p, ob 2 [.ref pK, .ref pL, .ref pQ, .ref pW, .ref pX, .ref pY, .ref pS, .int (zz ↑np), .int (zz ↑nr)]), (pK, aI E 7 kd), (pL, aI E 7 lf), (pQ, aI E 7 qt), (pW, aI E 10 wd), (pX, aI E 6 rx), (pY, aI E 6 ry)]) (wr := [(x, ob 6 [.ref s, .ref p, .ref z, .ref a, .ref b, .ref c, .ref f, .ref k, .ref q, .ref o]), (a, hO h), (o, ob 1 [.ref p, .ref fl, .ref ln, .ref mt, .int (zz ↑fr), .int (zz (↑(Q.length)))]), (fl, hO f3), (p, ob 2 [.ref pK, .ref pL, .ref pQ, .ref pW, .ref pX, .ref pY, .ref pS, .int (zz ↑np), .int (zz ↑nr)]), (pK, aI E 7 kd), (pL, aI E 7 lf), (pQ, aI E 7 qt), (pW, aI E 10 wd), (pX, aI E 6 rx), (pY, aI E 6 ry)]) (call_S kX6_227 (c_gcd E (d + 11) A B (by omega) (by omega)) rfl (by omega) (by decide) (Nat.le_of_ble_eq_true rfl) (Nat.le_of_ble_eq_true rfl) dX6_likely_56) [] [0, 1, 2, 3, 4, 5, 6, 7, 8, 9, 10] [0, 1, 2, 3, 4, 5, 6, 7, 8, 9, 10] rfl rfl rfl rfl rfl rfl rfl ?_
          refine rr_istore (lv2 := [(0, .ref x), (1, .int (zz ↑n)), (2, .int (zz w)), (3, .int (zz ↑A)), (4, .int (zz ↑B)), (5, .int (zz (↑(gcdF 64 A B))))]) dX6_likely_59 (by decide) rfl ?_
          refine RR.ws (ws2 := [(x, ob 6 [.ref s, .ref p, .ref z, .ref a, .ref b, .ref c, .ref f, .ref k, .ref q, .ref o]), (o, ob 1 [.ref p, .ref fl, .ref ln, .ref mt, .int (zz ↑fr), .int (zz (↑(Q.length)))]), (fl, hO f3), (p, ob 2 [.ref pK, .ref pL, .ref pQ, .ref pW, .ref pX, .ref pY, .ref pS, .int (zz ↑np), .int (zz ↑nr)]), (pK, aI E 7 kd), (pL, aI E 7 lf), (pQ, aI E 7 qt), (pW, aI E 10 wd), (pX, aI E 6 rx), (pY, aI E 6 ry), (a, hO h)]) [0, 2, 3, 4, 5, 6, 7, 8, 9, 10, 1] rfl rfl ?_
          refine rr_iload 5 dX6_likely_61 rfl ?_
          refine rr_iconst dX6_likely_63 ?_
          refine rr_icmp_ge 69 dX6_likely_64 (by decide) (by omega) (by omega) (fun c_5 => ?_) (fun c_5 => ?_)
          · skip
            refine rr_iload_n 2 dX6_likely_69 rfl ?_
            refine rr_if_ne 80 dX6_likely_70 (by decide) (by omega) (fun c_6 => ?_) (fun c_6 => ?_)
            · skip
              refine rr_iload 4 dX6_likely_80 rfl ?_
              refine rr_iload 5 dX6_likely_82 rfl ?_
              refine rr_idiv dX6_likely_84 (by omega) (by omega) ?_
              exact rr_iret dX6_likely_85 rfl rfl ⟨congrArg (fun z => some (Value.int (zz z))) (by rw [hAe, hBe]; unfold likA; rw [if_neg (by omega), Int.natCast_ediv]), f3, rfl⟩
            · skip
              refine rr_iload_n 3 dX6_likely_73 rfl ?_
              refine rr_iload 5 dX6_likely_74 rfl ?_
              refine rr_idiv dX6_likely_76 (by omega) (by omega) ?_
              refine rr_goto 85 dX6_likely_77 (by decide) ?_
              exact rr_iret dX6_likely_85 rfl rfl ⟨congrArg (fun z => some (Value.int (zz z))) (by rw [hAe, hBe]; unfold likA; rw [if_pos (by omega), Int.natCast_ediv]), f3, rfl⟩
          · skip
            exfalso; omega
        · skip
          exfalso; omega
