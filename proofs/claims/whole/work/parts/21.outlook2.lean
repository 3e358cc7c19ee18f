theorem ptF_rg {Q : Qu} {x y : Int} (h : ∀ e ∈ Q, e.1 < 262144) : ∀ (n i : Nat), i + n = Q.length ∨ n = 0 → -1 ≤ ptF Q x y n i ∧ ptF Q x y n i < 262144
  | 0, i, _ => by rw [ptF]; omega
  | n + 1, i, hh => by
    rw [ptF]
    split
    · have := h _ (List.mem_of_getElem? (Q_at (Q := Q) (i := i) (by omega)))
      omega
    · exact ptF_rg h n (i + 1) (by omega)
set_option maxRecDepth 100000 in
set_option maxHeartbeats 1000000 in
theorem c_pathTo (E : Ev) (d : Nat) (p pK pL pQ pW pX pY pS : Nat) (np nr : Nat) (o fl ln mt fr : Nat) (Q : Qu) (kd lf qt wd f lin mts : Nat → Int) (x y : Int) (hp : pOK np kd lf qt wd) (hf : 1 ≤ f 5 ∧ f 5 ≤ 2) (hq : QI lin mts Q) (hfr : fr ≤ Q.length) (hpa : ∀ e ∈ Q, e.1 < 262144) (hx : -2147483648 ≤ x ∧ x < 2147483648) (hy : -2147483648 ≤ y ∧ y < 2147483648) : SP E mX1_pathTo (d + 2) 0 0 [.ref o, .int (zz x), .int (zz y)] [(o, ob 1 [.ref p, .ref fl, .ref ln, .ref mt, .int (zz ↑fr), .int (zz (↑(Q.length)))]), (fl, hO f), (ln, aI E 8000 lin), (p, ob 2 [.ref pK, .ref pL, .ref pQ, .ref pW, .ref pX, .ref pY, .ref pS, .int (zz ↑np), .int (zz ↑nr)]), (pK, aI E 7 kd)] (fun v w => v = some (.int (zz (ptF Q x y (Q.length - fr) fr))) ∧ ∃ f2 : Nat → Int, f2 5 = f 5 ∧ w = [(o, ob 1 [.ref p, .ref fl, .ref ln, .ref mt, .int (zz ↑fr), .int (zz (↑(Q.length)))]), (fl, hO f2), (ln, aI E 8000 lin), (p, ob 2 [.ref pK, .ref pL, .ref pQ, .ref pW, .ref pX, .ref pY, .ref pS, .int (zz ↑np), .int (zz ↑nr)]), (pK, aI E 7 kd)]) := by
  show RR E mX1_pathTo (d + 2) 0 0 0 [(0, .ref o), (1, .int (zz x)), (2, .int (zz y))] [] [(o, ob 1 [.ref p, .ref fl, .ref ln, .ref mt, .int (zz ↑fr), .int (zz (↑(Q.length)))]), (fl, hO f), (ln, aI E 8000 lin), (p, ob 2 [.ref pK, .ref pL, .ref pQ, .ref pW, .ref pX, .ref pY, .ref pS, .int (zz ↑np), .int (zz ↑nr)]), (pK, aI E 7 kd)] (fun v w => v = some (.int (zz (ptF Q x y (Q.length - fr) fr))) ∧ ∃ f2 : Nat → Int, f2 5 = f 5 ∧ w = [(o, ob 1 [.ref p, .ref fl, .ref ln, .ref mt, .int (zz ↑fr), .int (zz (↑(Q.length)))]), (fl, hO f2), (ln, aI E 8000 lin), (p, ob 2 [.ref pK, .ref pL, .ref pQ, .ref pW, .ref pX, .ref pY, .ref pS, .int (zz ↑np), .int (zz ↑nr)]), (pK, aI E 7 kd)])
  have hq1 := hq.1
  have lp : ∀ (n i : Nat) (f1 : Nat → Int), i + n = Q.length → f1 5 = f 5 → ptF Q x y n i = ptF Q x y (Q.length - fr) fr → RR E mX1_pathTo (d + 2) 0 0 5 [(0, .ref o), (1, .int (zz x)), (2, .int (zz y)), (3, .int (zz ↑i))] [] [(o, ob 1 [.ref p, .ref fl, .ref ln, .ref mt, .int (zz ↑fr), .int (zz (↑(Q.length)))]), (fl, hO f1), (ln, aI E 8000 lin), (p, ob 2 [.ref pK, .ref pL, .ref pQ, .ref pW, .ref pX, .ref pY, .ref pS, .int (zz ↑np), .int (zz ↑nr)]), (pK, aI E 7 kd)] (fun v w => v = some (.int (zz (ptF Q x y (Q.length - fr) fr))) ∧ ∃ f2 : Nat → Int, f2 5 = f 5 ∧ w = [(o, ob 1 [.ref p, .ref fl, .ref ln, .ref mt, .int (zz ↑fr), .int (zz (↑(Q.length)))]), (fl, hO f2), (ln, aI E 8000 lin), (p, ob 2 [.ref pK, .ref pL, .ref pQ, .ref pW, .ref pX, .ref pY, .ref pS, .int (zz ↑np), .int (zz ↑nr)]), (pK, aI E 7 kd)]) := by
    intro n
    induction n with
    | zero =>
      intro i f1 h1 h2 h4
      rw [ptF] at h4
      refine rr_iload_n 3 dX1_pathTo_5 rfl ?_
      refine rr_aload_n 0 dX1_pathTo_6 rfl ?_
      refine rr_get fX1_33 0 rfl rfl dX1_pathTo_7 ?_
      refine rr_icmp_ge 75 dX1_pathTo_10 (by decide) (by omega) (by omega) (fun c_1 => ?_) (fun c_1 => ?_)
      · skip
        refine rr_iconst dX1_pathTo_75 ?_
        exact rr_iret dX1_pathTo_76 rfl rfl ⟨by rw [← h4], f1, h2, rfl⟩
      · skip
        exfalso; omega
    | succ n ih =>
      intro i f1 h1 h2 h4
      obtain ⟨pa, pl, he⟩ : ∃ pa pl, Q.getD i (0, 0) = (pa, pl) := ⟨_, _, rfl⟩
      rw [ptF, he] at h4
      dsimp only at h4
      have hat : Q[i]? = some (pa, pl) := by rw [Q_at (by omega), he]
      have hli := hq.2.1 i (pa, pl) hat
      dsimp only at hli
      have hpl : pl < 8000 := hq.2.2.2.2 (pa, pl) (List.mem_of_getElem? hat)
      have hpa2 : pa < 262144 := hpa (pa, pl) (List.mem_of_getElem? hat)
      refine rr_iload_n 3 dX1_pathTo_5 rfl ?_
      refine rr_aload_n 0 dX1_pathTo_6 rfl ?_
      refine rr_get fX1_33 0 rfl rfl dX1_pathTo_7 ?_
      refine rr_icmp_ge 75 dX1_pathTo_10 (by decide) (by omega) (by omega) (fun c_2 => ?_) (fun c_2 => ?_)
      · skip
        exfalso; omega
      · skip
        refine rr_aload_n 0 dX1_pathTo_13 rfl ?_
        refine rr_aload_n 0 dX1_pathTo_14 rfl ?_
        refine rr_get fX1_18 0 rfl rfl dX1_pathTo_15 ?_
        refine rr_iload_n 3 dX1_pathTo_18 rfl ?_
        refine rr_iald 2 i rfl rfl (by omega) (by omega) dX1_pathTo_19 ?_
        refine rr_top (b := ↑(pa * 8192 + pl)) hli ?_
        refine rr_sipush dX1_pathTo_20 (by decide) ?_
        refine rr_iand (r := ↑pl) 13 dX1_pathTo_23 (by decide) (by decide +kernel) (by omega) ?_
        have ke_3 : stF (fdF kd np 0) f1 pl 5 = f1 5 := rfl
        have ke_4 : stF (fdF kd np 0) f1 pl 2 = ↑(pl / 800) := rfl
        have ke_5 : stF (fdF kd np 0) f1 pl 0 = (↑(pl / 8) : Int) % 10 := rfl
        have ke_6 : stF (fdF kd np 0) f1 pl 1 = (↑(pl / 8) : Int) / 10 % 10 := rfl
        refine rr_callFv (ws2 := [(o, ob 1 [.ref p, .ref fl, .ref ln, .ref mt, .int (zz ↑fr), .int (zz (↑(Q.length)))]), (fl, hO (stF (fdF kd np 0) f1 pl)), (ln, aI E 8000 lin), (p, ob 2 [.ref pK, .ref pL, .ref pQ, .ref pW, .ref pX, .ref pY, .ref pS, .int (zz ↑np), .int (zz ↑nr)]), (pK, aI E 7 kd)]) (wr := [(ln, aI E 8000 lin)]) (call_V (q0 := 0) kX1_57 (c_standAt E (d + 0) p pK pL pQ pW pX pY pS np nr o fl ln mt fr Q kd lf qt wd f1 pl hp (by omega)) rfl rfl rfl rfl (by omega) (by decide) (Nat.le_of_ble_eq_true rfl) (Nat.le_of_ble_eq_true rfl) dX1_pathTo_24) [0, 1, 3, 4] [2] [1, 2, 0, 3, 4] rfl rfl rfl rfl rfl rfl rfl ?_
        refine rr_aload_n 0 dX1_pathTo_27 rfl ?_
        refine rr_get fX1_12 0 rfl rfl dX1_pathTo_28 ?_
        refine rr_callFi (ws2 := [(o, ob 1 [.ref p, .ref fl, .ref ln, .ref mt, .int (zz ↑fr), .int (zz (↑(Q.length)))]), (fl, hO (stF (fdF kd np 0) f1 pl)), (ln, aI E 8000 lin), (p, ob 2 [.ref pK, .ref pL, .ref pQ, .ref pW, .ref pX, .ref pY, .ref pS, .int (zz ↑np), .int (zz ↑nr)]), (pK, aI E 7 kd)]) (wr := [(o, ob 1 [.ref p, .ref fl, .ref ln, .ref mt, .int (zz ↑fr), .int (zz (↑(Q.length)))]), (ln, aI E 8000 lin), (p, ob 2 [.ref pK, .ref pL, .ref pQ, .ref pW, .ref pX, .ref pY, .ref pS, .int (zz ↑np), .int (zz ↑nr)]), (pK, aI E 7 kd)]) (call_V (q0 := 0) kX1_61 (c_isDown E (d + 1) fl (stF (fdF kd np 0) f1 pl) (by omega)) rfl rfl rfl rfl (by omega) (by decide) (Nat.le_of_ble_eq_true rfl) (Nat.le_of_ble_eq_true rfl) dX1_pathTo_31) [1] [0, 2, 3, 4] [0, 4, 1, 2, 3] rfl rfl rfl rfl rfl rfl rfl ?_
        refine rr_if_eqD 69 dX1_pathTo_34 (by decide) (fun c_7 => ?_) (fun c_7 => ?_)
        · skip
          refine rr_iinc (lv2 := [(0, .ref o), (1, .int (zz x)), (2, .int (zz y)), (3, .int (zz (↑(i + 1))))]) 3 dX1_pathTo_69 rfl (by decide) rfl ?_
          refine rr_goto 5 dX1_pathTo_72 (by decide) ?_
          exact ih (i + 1) (stF (fdF kd np 0) f1 pl) (by omega) h2 (by rw [if_neg (by omega)] at h4; exact h4)
        · skip
          refine rr_aload_n 0 dX1_pathTo_37 rfl ?_
          refine rr_get fX1_12 0 rfl rfl dX1_pathTo_38 ?_
          refine rr_get fX1_65 1 rfl rfl dX1_pathTo_41 ?_
          refine rr_iload_n 1 dX1_pathTo_44 rfl ?_
          refine rr_icmp_ne 69 dX1_pathTo_45 (by decide) (by omega) (by omega) (fun c_8 => ?_) (fun c_8 => ?_)
          · skip
            refine rr_iinc (lv2 := [(0, .ref o), (1, .int (zz x)), (2, .int (zz y)), (3, .int (zz (↑(i + 1))))]) 3 dX1_pathTo_69 rfl (by decide) rfl ?_
            refine rr_goto 5 dX1_pathTo_72 (by decide) ?_
            exact ih (i + 1) (stF (fdF kd np 0) f1 pl) (by omega) h2 (by rw [if_neg (by omega)] at h4; exact h4)
          · skip
            refine rr_aload_n 0 dX1_pathTo_48 rfl ?_
            refine rr_get fX1_12 0 rfl rfl dX1_pathTo_49 ?_
            refine rr_get fX1_68 1 rfl rfl dX1_pathTo_52 ?_
            refine rr_iload_n 2 dX1_pathTo_55 rfl ?_
            refine rr_icmp_ne 69 dX1_pathTo_56 (by decide) (by omega) (by omega) (fun c_9 => ?_) (fun c_9 => ?_)
            · skip
              refine rr_iinc (lv2 := [(0, .ref o), (1, .int (zz x)), (2, .int (zz y)), (3, .int (zz (↑(i + 1))))]) 3 dX1_pathTo_69 rfl (by decide) rfl ?_
              refine rr_goto 5 dX1_pathTo_72 (by decide) ?_
              exact ih (i + 1) (stF (fdF kd np 0) f1 pl) (by omega) h2 (by rw [if_neg (by omega)] at h4; exact h4)
            · skip
              refine rr_aload_n 0 dX1_pathTo_59 rfl ?_
              refine rr_get fX1_18 0 rfl rfl dX1_pathTo_60 ?_
              refine rr_iload_n 3 dX1_pathTo_63 rfl ?_
              refine rr_iald 2 i rfl rfl (by omega) (by omega) dX1_pathTo_64 ?_
              refine rr_top (b := ↑(pa * 8192 + pl)) hli ?_
              refine rr_bipush dX1_pathTo_65 (by decide) ?_
              refine rr_ishr (n := pa * 8192 + pl) (k := 13) dX1_pathTo_67 (by omega) (by decide) ?_
              refine rr_top (b := ↑pa) (by omega) ?_
              exact rr_iret dX1_pathTo_68 rfl rfl ⟨by rw [← h4, if_pos (by omega)], (stF (fdF kd np 0) f1 pl), h2, rfl⟩
  refine rr_aload_n 0 dX1_pathTo_0 rfl ?_
  refine rr_get fX1_29 0 rfl rfl dX1_pathTo_1 ?_
  refine rr_istore_n (lv2 := [(0, .ref o), (1, .int (zz x)), (2, .int (zz y)), (3, .int (zz ↑fr))]) dX1_pathTo_4 (by decide) rfl ?_
  exact lp (Q.length - fr) fr f (by omega) rfl rfl
set_option maxRecDepth 100000 in
set_option maxHeartbeats 1000000 in
theorem c_roofsReached (E : Ev) (d : Nat) (p pK pL pQ pW pX pY pS : Nat) (np nr : Nat) (o fl ln mt fr : Nat) (Q : Qu) (kd lf qt wd rx ry f lin mts : Nat → Int) (hp : pOK np kd lf qt wd) (hr : rOK nr rx ry) (hf : 1 ≤ f 5 ∧ f 5 ≤ 2) (hq : QI lin mts Q) (hfr : fr ≤ Q.length) (hpa : ∀ e ∈ Q, e.1 < 262144) : SP E mX1_roofsReached (d + 3) 0 0 [.ref o] [(o, ob 1 [.ref p, .ref fl, .ref ln, .ref mt, .int (zz ↑fr), .int (zz (↑(Q.length)))]), (fl, hO f), (ln, aI E 8000 lin), (p, ob 2 [.ref pK, .ref pL, .ref pQ, .ref pW, .ref pX, .ref pY, .ref pS, .int (zz ↑np), .int (zz ↑nr)]), (pK, aI E 7 kd), (pX, aI E 6 rx), (pY, aI E 6 ry)] (fun v w => v = some (.int (zz ((bitsTo (fun r => decide (0 ≤ ptF Q (rx r) (ry r) (Q.length - fr) fr)) nr : Nat) : Int))) ∧ ∃ f2 : Nat → Int, f2 5 = f 5 ∧ w = [(o, ob 1 [.ref p, .ref fl, .ref ln, .ref mt, .int (zz ↑fr), .int (zz (↑(Q.length)))]), (fl, hO f2), (ln, aI E 8000 lin), (p, ob 2 [.ref pK, .ref pL, .ref pQ, .ref pW, .ref pX, .ref pY, .ref pS, .int (zz ↑np), .int (zz ↑nr)]), (pK, aI E 7 kd), (pX, aI E 6 rx), (pY, aI E 6 ry)]) := by
  show RR E mX1_roofsReached (d + 3) 0 0 0 [(0, .ref o)] [] [(o, ob 1 [.ref p, .ref fl, .ref ln, .ref mt, .int (zz ↑fr), .int (zz (↑(Q.length)))]), (fl, hO f), (ln, aI E 8000 lin), (p, ob 2 [.ref pK, .ref pL, .ref pQ, .ref pW, .ref pX, .ref pY, .ref pS, .int (zz ↑np), .int (zz ↑nr)]), (pK, aI E 7 kd), (pX, aI E 6 rx), (pY, aI E 6 ry)] (fun v w => v = some (.int (zz ((bitsTo (fun r => decide (0 ≤ ptF Q (rx r) (ry r) (Q.length - fr) fr)) nr : Nat) : Int))) ∧ ∃ f2 : Nat → Int, f2 5 = f 5 ∧ w = [(o, ob 1 [.ref p, .ref fl, .ref ln, .ref mt, .int (zz ↑fr), .int (zz (↑(Q.length)))]), (fl, hO f2), (ln, aI E 8000 lin), (p, ob 2 [.ref pK, .ref pL, .ref pQ, .ref pW, .ref pX, .ref pY, .ref pS, .int (zz ↑np), .int (zz ↑nr)]), (pK, aI E 7 kd), (pX, aI E 6 rx), (pY, aI E 6 ry)])
  have hr1 := hr.1
  have lp : ∀ (n i : Nat) (f1 : Nat → Int), i + n = nr → f1 5 = f 5 → RR E mX1_roofsReached (d + 3) 0 0 4 [(0, .ref o), (1, .int (zz (↑(bitsTo (fun r => decide (0 ≤ ptF Q (rx r) (ry r) (Q.length - fr) fr)) i)))), (2, .int (zz ↑i))] [] [(o, ob 1 [.ref p, .ref fl, .ref ln, .ref mt, .int (zz ↑fr), .int (zz (↑(Q.length)))]), (fl, hO f1), (ln, aI E 8000 lin), (p, ob 2 [.ref pK, .ref pL, .ref pQ, .ref pW, .ref pX, .ref pY, .ref pS, .int (zz ↑np), .int (zz ↑nr)]), (pK, aI E 7 kd), (pX, aI E 6 rx), (pY, aI E 6 ry)] (fun v w => v = some (.int (zz ((bitsTo (fun r => decide (0 ≤ ptF Q (rx r) (ry r) (Q.length - fr) fr)) nr : Nat) : Int))) ∧ ∃ f2 : Nat → Int, f2 5 = f 5 ∧ w = [(o, ob 1 [.ref p, .ref fl, .ref ln, .ref mt, .int (zz ↑fr), .int (zz (↑(Q.length)))]), (fl, hO f2), (ln, aI E 8000 lin), (p, ob 2 [.ref pK, .ref pL, .ref pQ, .ref pW, .ref pX, .ref pY, .ref pS, .int (zz ↑np), .int (zz ↑nr)]), (pK, aI E 7 kd), (pX, aI E 6 rx), (pY, aI E 6 ry)]) := by
    intro n
    induction n with
    | zero =>
      intro i f1 h1 h2
      obtain rfl : i = nr := by omega
      refine rr_iload_n 2 dX1_roofsReached_4 rfl ?_
      refine rr_aload_n 0 dX1_roofsReached_5 rfl ?_
      refine rr_get fX1_25 0 rfl rfl dX1_roofsReached_6 ?_
      refine rr_get fX1_71 3 rfl rfl dX1_roofsReached_9 ?_
      refine rr_icmp_ge 52 dX1_roofsReached_12 (by decide) (by omega) (by omega) (fun c_1 => ?_) (fun c_1 => ?_)
      · skip
        refine rr_iload_n 1 dX1_roofsReached_52 rfl ?_
        exact rr_iret dX1_roofsReached_53 rfl rfl ⟨rfl, f1, h2, rfl⟩
      · skip
        exfalso; omega
    | succ n ih =>
      intro i f1 h1 h2
      obtain ⟨x0, y0⟩ := hr.2 i (by omega)
      refine rr_iload_n 2 dX1_roofsReached_4 rfl ?_
      refine rr_aload_n 0 dX1_roofsReached_5 rfl ?_
      refine rr_get fX1_25 0 rfl rfl dX1_roofsReached_6 ?_
      refine rr_get fX1_71 3 rfl rfl dX1_roofsReached_9 ?_
      refine rr_icmp_ge 52 dX1_roofsReached_12 (by decide) (by omega) (by omega) (fun c_2 => ?_) (fun c_2 => ?_)
      · skip
        exfalso; omega
      · skip
        refine rr_aload_n 0 dX1_roofsReached_15 rfl ?_
        refine rr_aload_n 0 dX1_roofsReached_16 rfl ?_
        refine rr_get fX1_25 0 rfl rfl dX1_roofsReached_17 ?_
        refine rr_get fX1_74 3 rfl rfl dX1_roofsReached_20 ?_
        refine rr_iload_n 2 dX1_roofsReached_23 rfl ?_
        refine rr_iald 5 i rfl rfl (by omega) (by omega) dX1_roofsReached_24 ?_
        refine rr_aload_n 0 dX1_roofsReached_25 rfl ?_
        refine rr_get fX1_25 0 rfl rfl dX1_roofsReached_26 ?_
        refine rr_get fX1_77 3 rfl rfl dX1_roofsReached_29 ?_
        refine rr_iload_n 2 dX1_roofsReached_32 rfl ?_
        refine rr_iald 6 i rfl rfl (by omega) (by omega) dX1_roofsReached_33 ?_
        refine rr_call (wr := [(pX, aI E 6 rx), (pY, aI E 6 ry)]) (call_V (q0 := 0) kX1_80 (c_pathTo E (d + 0) p pK pL pQ pW pX pY pS np nr o fl ln mt fr Q kd lf qt wd f1 lin mts (rx i) (ry i) hp (by omega) hq hfr hpa (by omega) (by omega)) rfl rfl rfl rfl (by omega) (by decide) (Nat.le_of_ble_eq_true rfl) (Nat.le_of_ble_eq_true rfl) dX1_roofsReached_34) [0, 1, 2, 3, 4] [5, 6] rfl rfl rfl rfl rfl (Nat.zero_le _) (Nat.zero_le _) (fun v w1 hp1 => ?_)
        obtain ⟨rfl, f3, hf3, rfl⟩ := hp1
        refine RR.ws (ws2 := [(o, ob 1 [.ref p, .ref fl, .ref ln, .ref mt, .int (zz ↑fr), .int (zz (↑(Q.length)))]), (fl, hO f3), (ln, aI E 8000 lin), (p, ob 2 [.ref pK, .ref pL, .ref pQ, .ref pW, .ref pX, .ref pY, .ref pS, .int (zz ↑np), .int (zz ↑nr)]), (pK, aI E 7 kd), (pX, aI E 6 rx), (pY, aI E 6 ry)]) [2, 3, 4, 5, 6, 0, 1] rfl rfl ?_
        refine RR.eq (st2 := [.int (zz (ptF Q (rx i) (ry i) (Q.length - fr) fr))]) rfl rfl rfl rfl ?_
        refine rr_if_lt 46 dX1_roofsReached_37 (by decide) (by have := ptF_rg (Q := Q) (x := rx i) (y := ry i) hpa (Q.length - fr) fr (by omega); omega) (fun c_3 => ?_) (fun c_3 => ?_)
        · skip
          refine rr_iinc (lv2 := [(0, .ref o), (1, .int (zz (↑(bitsTo (fun r => decide (0 ≤ ptF Q (rx r) (ry r) (Q.length - fr) fr)) i)))), (2, .int (zz (↑(i + 1))))]) 2 dX1_roofsReached_46 rfl (by decide) rfl ?_
          refine rr_goto 4 dX1_roofsReached_49 (by decide) ?_
          refine RR.eq (lv2 := [(0, .ref o), (1, .int (zz (↑(bitsTo (fun r => decide (0 ≤ ptF Q (rx r) (ry r) (Q.length - fr) fr)) (i + 1))))), (2, .int (zz (↑(i + 1))))]) rfl (by rw [bitsTo, if_neg (by simp only [decide_eq_true_eq]; omega)]) rfl rfl ?_
          exact ih (i + 1) f3 (by omega) (by omega)
        · skip
          refine rr_iload_n 1 dX1_roofsReached_40 rfl ?_
          refine rr_iconst dX1_roofsReached_41 ?_
          refine rr_iload_n 2 dX1_roofsReached_42 rfl ?_
          refine rr_ishl (n := 1) (k := i) dX1_roofsReached_43 (by omega) (by have := Nat.pow_le_pow_right (n := 2) (by omega) (show i ≤ 6 by omega); omega) ?_
          refine rr_top (b := ((2 ^ i : Nat) : Int)) (by rw [Nat.one_mul]) ?_
          refine rr_ior (a := bitsTo (fun r => decide (0 ≤ ptF Q (rx r) (ry r) (Q.length - fr) fr)) i) (b := 2 ^ i) dX1_roofsReached_44 ?_
          refine rr_top (b := ↑(bitsTo (fun r => decide (0 ≤ ptF Q (rx r) (ry r) (Q.length - fr) fr)) (i + 1))) (by rw [bitsTo, if_pos (by simp only [decide_eq_true_eq]; omega)]) ?_
          refine rr_istore_n (lv2 := [(0, .ref o), (1, .int (zz (↑(bitsTo (fun r => decide (0 ≤ ptF Q (rx r) (ry r) (Q.length - fr) fr)) (i + 1))))), (2, .int (zz ↑i))]) dX1_roofsReached_45 (by decide) rfl ?_
          refine rr_iinc (lv2 := [(0, .ref o), (1, .int (zz (↑(bitsTo (fun r => decide (0 ≤ ptF Q (rx r) (ry r) (Q.length - fr) fr)) (i + 1))))), (2, .int (zz (↑(i + 1))))]) 2 dX1_roofsReached_46 rfl (by decide) rfl ?_
          refine rr_goto 4 dX1_roofsReached_49 (by decide) ?_
          exact ih (i + 1) f3 (by omega) (by omega)
  refine rr_iconst dX1_roofsReached_0 ?_
  refine rr_istore_n (lv2 := [(0, .ref o), (1, .int (zz 0))]) dX1_roofsReached_1 (by decide) rfl ?_
  refine rr_iconst dX1_roofsReached_2 ?_
  refine rr_istore_n (lv2 := [(0, .ref o), (1, .int (zz 0)), (2, .int (zz 0))]) dX1_roofsReached_3 (by decide) rfl ?_
  exact lp nr 0 f (by omega) rfl
set_option maxRecDepth 100000 in
set_option maxHeartbeats 1000000 in
theorem c_grow (E : Ev) (d : Nat) (p pK pL pQ pW pX pY pS : Nat) (np nr : Nat) (o fl ln mt fr : Nat) (Q : Qu) (kd lf qt wd f lin mts : Nat → Int) (hp : pOK np kd lf qt wd) (hf : 1 ≤ f 5 ∧ f 5 ≤ 2) (hq : QI lin mts Q) (hfr : fr ≤ Q.length) (hpa : ∀ e ∈ Q, e.1 < 32768) : SP E mX1_grow (d + 5) 0 0 [.ref o] [(o, ob 1 [.ref p, .ref fl, .ref ln, .ref mt, .int (zz ↑fr), .int (zz (↑(Q.length)))]), (fl, hO f), (ln, aI E 8000 lin), (mt, aI E 250 mts), (p, ob 2 [.ref pK, .ref pL, .ref pQ, .ref pW, .ref pX, .ref pY, .ref pS, .int (zz ↑np), .int (zz ↑nr)]), (pK, aI E 7 kd), (pL, aI E 7 lf), (pQ, aI E 7 qt), (pW, aI E 10 wd)] (fun v w => v = none ∧ ∃ f2 lin2 mts2 : Nat → Int, f2 5 = f 5 ∧ QI lin2 mts2 (grF (nxF np kd lf qt wd (f 5)) np (Q.length - fr) fr Q) ∧ w = ouW E o p fl ln mt Q.length (grF (nxF np kd lf qt wd (f 5)) np (Q.length - fr) fr Q) f2 lin2 mts2 ++ [(p, ob 2 [.ref pK, .ref pL, .ref pQ, .ref pW, .ref pX, .ref pY, .ref pS, .int (zz ↑np), .int (zz ↑nr)]), (pK, aI E 7 kd), (pL, aI E 7 lf), (pQ, aI E 7 qt), (pW, aI E 10 wd)]) := by
  show RR E mX1_grow (d + 5) 0 0 0 [(0, .ref o)] [] [(o, ob 1 [.ref p, .ref fl, .ref ln, .ref mt, .int (zz ↑fr), .int (zz (↑(Q.length)))]), (fl, hO f), (ln, aI E 8000 lin), (mt, aI E 250 mts), (p, ob 2 [.ref pK, .ref pL, .ref pQ, .ref pW, .ref pX, .ref pY, .ref pS, .int (zz ↑np), .int (zz ↑nr)]), (pK, aI E 7 kd), (pL, aI E 7 lf), (pQ, aI E 7 qt), (pW, aI E 10 wd)] (fun v w => v = none ∧ ∃ f2 lin2 mts2 : Nat → Int, f2 5 = f 5 ∧ QI lin2 mts2 (grF (nxF np kd lf qt wd (f 5)) np (Q.length - fr) fr Q) ∧ w = ouW E o p fl ln mt Q.length (grF (nxF np kd lf qt wd (f 5)) np (Q.length - fr) fr Q) f2 lin2 mts2 ++ [(p, ob 2 [.ref pK, .ref pL, .ref pQ, .ref pW, .ref pX, .ref pY, .ref pS, .int (zz ↑np), .int (zz ↑nr)]), (pK, aI E 7 kd), (pL, aI E 7 lf), (pQ, aI E 7 qt), (pW, aI E 10 wd)])
  have hn := hp.1
  have lp : ∀ (n i : Nat) (Q1 : Qu) (f1 lin1 mts1 : Nat → Int), i + n = Q.length → Q.length ≤ Q1.length → QI lin1 mts1 Q1 → f1 5 = f 5 → (∀ j, j < Q.length → (Q1.getD j (0, 0)).1 < 32768) → grF (nxF np kd lf qt wd (f 5)) np n i Q1 = grF (nxF np kd lf qt wd (f 5)) np (Q.length - fr) fr Q → RR E mX1_grow (d + 5) 0 0 10 [(0, .ref o), (1, .int (zz (↑(Q.length)))), (2, .int (zz ↑i))] [] [(o, ob 1 [.ref p, .ref fl, .ref ln, .ref mt, .int (zz ↑fr), .int (zz (↑(Q1.length)))]), (fl, hO f1), (ln, aI E 8000 lin1), (mt, aI E 250 mts1), (p, ob 2 [.ref pK, .ref pL, .ref pQ, .ref pW, .ref pX, .ref pY, .ref pS, .int (zz ↑np), .int (zz ↑nr)]), (pK, aI E 7 kd), (pL, aI E 7 lf), (pQ, aI E 7 qt), (pW, aI E 10 wd)] (fun v w => v = none ∧ ∃ f2 lin2 mts2 : Nat → Int, f2 5 = f 5 ∧ QI lin2 mts2 (grF (nxF np kd lf qt wd (f 5)) np (Q.length - fr) fr Q) ∧ w = ouW E o p fl ln mt Q.length (grF (nxF np kd lf qt wd (f 5)) np (Q.length - fr) fr Q) f2 lin2 mts2 ++ [(p, ob 2 [.ref pK, .ref pL, .ref pQ, .ref pW, .ref pX, .ref pY, .ref pS, .int (zz ↑np), .int (zz ↑nr)]), (pK, aI E 7 kd), (pL, aI E 7 lf), (pQ, aI E 7 qt), (pW, aI E 10 wd)]) := by
    intro n
    induction n with
    | zero =>
      intro i Q1 f1 lin1 mts1 h1 h2 hq h5 h6 h4
      rw [grF] at h4
      have hq1 := hq.1
      refine rr_iload_n 2 dX1_grow_10 rfl ?_
      refine rr_iload_n 1 dX1_grow_11 rfl ?_
      refine rr_icmp_ge 91 dX1_grow_12 (by decide) (by omega) (by omega) (fun c_1 => ?_) (fun c_1 => ?_)
      · skip
        refine rr_aload_n 0 dX1_grow_91 rfl ?_
        refine rr_iload_n 1 dX1_grow_92 rfl ?_
        refine rr_put (ws2 := [(o, ob 1 [.ref p, .ref fl, .ref ln, .ref mt, .int (zz (↑(Q.length))), .int (zz (↑(Q1.length)))]), (fl, hO f1), (ln, aI E 8000 lin1), (mt, aI E 250 mts1), (p, ob 2 [.ref pK, .ref pL, .ref pQ, .ref pW, .ref pX, .ref pY, .ref pS, .int (zz ↑np), .int (zz ↑nr)]), (pK, aI E 7 kd), (pL, aI E 7 lf), (pQ, aI E 7 qt), (pW, aI E 10 wd)]) fX1_29 0 rfl rfl rfl (Nat.le_of_ble_eq_true rfl) rfl dX1_grow_93 ?_
        exact rr_ret dX1_grow_96 rfl ⟨rfl, f1, lin1, mts1, h5, by rw [← h4]; exact hq, by rw [← h4]; rfl⟩
      · skip
        exfalso; omega
    | succ n ih =>
      intro i Q1 f1 lin1 mts1 h1 h2 hq h5 h6 h4
      obtain ⟨pa, pl, he⟩ : ∃ pa pl, Q1.getD i (0, 0) = (pa, pl) := ⟨_, _, rfl⟩
      have hpa := h6 i (by omega)
      rw [grF, he] at h4
      rw [he] at hpa
      dsimp only at h4 hpa
      have hat : Q1[i]? = some (pa, pl) := by rw [Q_at (by omega), he]
      have hli := hq.2.1 i (pa, pl) hat
      dsimp only at hli
      have hpl : pl < 8000 := hq.2.2.2.2 (pa, pl) (List.mem_of_getElem? hat)
      have hq1 := hq.1
      refine rr_iload_n 2 dX1_grow_10 rfl ?_
      refine rr_iload_n 1 dX1_grow_11 rfl ?_
      refine rr_icmp_ge 91 dX1_grow_12 (by decide) (by omega) (by omega) (fun c_2 => ?_) (fun c_2 => ?_)
      · skip
        exfalso; omega
      · skip
        refine rr_aload_n 0 dX1_grow_15 rfl ?_
        refine rr_get fX1_18 0 rfl rfl dX1_grow_16 ?_
        refine rr_iload_n 2 dX1_grow_19 rfl ?_
        refine rr_iald 2 i rfl rfl (by omega) (by omega) dX1_grow_20 ?_
        refine rr_top (b := ↑(pa * 8192 + pl)) hli ?_
        refine rr_bipush dX1_grow_21 (by decide) ?_
        refine rr_ishr (n := pa * 8192 + pl) (k := 13) dX1_grow_23 (by omega) (by decide) ?_
        refine rr_top (b := ↑pa) (by omega) ?_
        refine rr_istore_n (lv2 := [(0, .ref o), (1, .int (zz (↑(Q.length)))), (2, .int (zz ↑i)), (3, .int (zz ↑pa))]) dX1_grow_24 (by decide) rfl ?_
        refine rr_aload_n 0 dX1_grow_25 rfl ?_
        refine rr_get fX1_18 0 rfl rfl dX1_grow_26 ?_
        refine rr_iload_n 2 dX1_grow_29 rfl ?_
        refine rr_iald 2 i rfl rfl (by omega) (by omega) dX1_grow_30 ?_
        refine rr_top (b := ↑(pa * 8192 + pl)) hli ?_
        refine rr_sipush dX1_grow_31 (by decide) ?_
        refine rr_iand (r := ↑pl) 13 dX1_grow_34 (by decide) (by decide +kernel) (by omega) ?_
        refine rr_istore (lv2 := [(0, .ref o), (1, .int (zz (↑(Q.length)))), (2, .int (zz ↑i)), (3, .int (zz ↑pa)), (4, .int (zz ↑pl))]) dX1_grow_35 (by decide) rfl ?_
        refine rr_iload 4 dX1_grow_37 rfl ?_
        refine rr_callFi (ws2 := [(o, ob 1 [.ref p, .ref fl, .ref ln, .ref mt, .int (zz ↑fr), .int (zz (↑(Q1.length)))]), (fl, hO f1), (ln, aI E 8000 lin1), (mt, aI E 250 mts1), (p, ob 2 [.ref pK, .ref pL, .ref pQ, .ref pW, .ref pX, .ref pY, .ref pS, .int (zz ↑np), .int (zz ↑nr)]), (pK, aI E 7 kd), (pL, aI E 7 lf), (pQ, aI E 7 qt), (pW, aI E 10 wd)]) (wr := [(o, ob 1 [.ref p, .ref fl, .ref ln, .ref mt, .int (zz ↑fr), .int (zz (↑(Q1.length)))]), (fl, hO f1), (ln, aI E 8000 lin1), (mt, aI E 250 mts1), (p, ob 2 [.ref pK, .ref pL, .ref pQ, .ref pW, .ref pX, .ref pY, .ref pS, .int (zz ↑np), .int (zz ↑nr)]), (pK, aI E 7 kd), (pL, aI E 7 lf), (pQ, aI E 7 qt), (pW, aI E 10 wd)]) (call_S kX1_44 (c_heightOf E (d + 4) pl (by omega)) rfl (by omega) (by decide) (Nat.le_of_ble_eq_true rfl) (Nat.le_of_ble_eq_true rfl) dX1_grow_39) [] [0, 1, 2, 3, 4, 5, 6, 7, 8] [0, 1, 2, 3, 4, 5, 6, 7, 8] rfl rfl rfl rfl rfl rfl rfl ?_
        refine rr_if_le 85 dX1_grow_42 (by decide) (by omega) (fun c_3 => ?_) (fun c_3 => ?_)
        · skip
          refine rr_iinc (lv2 := [(0, .ref o), (1, .int (zz (↑(Q.length)))), (2, .int (zz (↑(i + 1)))), (3, .int (zz ↑pa)), (4, .int (zz ↑pl))]) 2 dX1_grow_85 rfl (by decide) rfl ?_
          refine rr_goto 10 dX1_grow_88 (by decide) ?_
          refine RR.lv [0, 1, 2] rfl ?_
          exact ih (i + 1) Q1 f1 lin1 mts1 (by omega) h2 hq h5 h6 (by rw [if_neg (by omega)] at h4; exact h4)
        · skip
          refine rr_iconst dX1_grow_45 ?_
          refine rr_istore (lv2 := [(0, .ref o), (1, .int (zz (↑(Q.length)))), (2, .int (zz ↑i)), (3, .int (zz ↑pa)), (4, .int (zz ↑pl)), (5, .int (zz 0))]) dX1_grow_46 (by decide) rfl ?_
          rw [if_pos (by omega)] at h4
          have lq : ∀ (n2 k : Nat) (Q2 : Qu) (f2 lin2 mts2 : Nat → Int), k + n2 = np → Q.length ≤ Q2.length → QI lin2 mts2 Q2 → f2 5 = f 5 → (∀ j, j < Q.length → (Q2.getD j (0, 0)).1 < 32768) → grF (nxF np kd lf qt wd (f 5)) np n (i + 1) (exF (nxF np kd lf qt wd (f 5)) (pa, pl) n2 k Q2) = grF (nxF np kd lf qt wd (f 5)) np (Q.length - fr) fr Q → RR E mX1_grow (d + 5) 0 0 48 [(0, .ref o), (1, .int (zz (↑(Q.length)))), (2, .int (zz ↑i)), (3, .int (zz ↑pa)), (4, .int (zz ↑pl)), (5, .int (zz ↑k))] [] [(o, ob 1 [.ref p, .ref fl, .ref ln, .ref mt, .int (zz ↑fr), .int (zz (↑(Q2.length)))]), (fl, hO f2), (ln, aI E 8000 lin2), (mt, aI E 250 mts2), (p, ob 2 [.ref pK, .ref pL, .ref pQ, .ref pW, .ref pX, .ref pY, .ref pS, .int (zz ↑np), .int (zz ↑nr)]), (pK, aI E 7 kd), (pL, aI E 7 lf), (pQ, aI E 7 qt), (pW, aI E 10 wd)] (fun v w => v = none ∧ ∃ f2 lin2 mts2 : Nat → Int, f2 5 = f 5 ∧ QI lin2 mts2 (grF (nxF np kd lf qt wd (f 5)) np (Q.length - fr) fr Q) ∧ w = ouW E o p fl ln mt Q.length (grF (nxF np kd lf qt wd (f 5)) np (Q.length - fr) fr Q) f2 lin2 mts2 ++ [(p, ob 2 [.ref pK, .ref pL, .ref pQ, .ref pW, .ref pX, .ref pY, .ref pS, .int (zz ↑np), .int (zz ↑nr)]), (pK, aI E 7 kd), (pL, aI E 7 lf), (pQ, aI E 7 qt), (pW, aI E 10 wd)]) := by
            intro n2
            induction n2 with
            | zero =>
              intro k Q2 f2 lin2 mts2 k1 k2 kq k5 k6 k4
              rw [exF] at k4
              refine rr_iload 5 dX1_grow_48 rfl ?_
              refine rr_aload_n 0 dX1_grow_50 rfl ?_
              refine rr_get fX1_25 0 rfl rfl dX1_grow_51 ?_
              refine rr_get fX1_48 4 rfl rfl dX1_grow_54 ?_
              refine rr_icmp_ge 85 dX1_grow_57 (by decide) (by omega) (by omega) (fun c_4 => ?_) (fun c_4 => ?_)
              · skip
                refine rr_iinc (lv2 := [(0, .ref o), (1, .int (zz (↑(Q.length)))), (2, .int (zz (↑(i + 1)))), (3, .int (zz ↑pa)), (4, .int (zz ↑pl)), (5, .int (zz ↑k))]) 2 dX1_grow_85 rfl (by decide) rfl ?_
                refine rr_goto 10 dX1_grow_88 (by decide) ?_
                refine RR.lv [0, 1, 2] rfl ?_
                exact ih (i + 1) Q2 f2 lin2 mts2 (by omega) k2 kq k5 k6 k4
              · skip
                exfalso; omega
            | succ n2 ih2 =>
              intro k Q2 f2 lin2 mts2 k1 k2 hq k5 k6 k4
              rw [exF] at k4
              dsimp only at k4
              have hnx := nxF_lt (rd := f2 5) hp (by omega) hpl (show k < np by omega)
              refine rr_iload 5 dX1_grow_48 rfl ?_
              refine rr_aload_n 0 dX1_grow_50 rfl ?_
              refine rr_get fX1_25 0 rfl rfl dX1_grow_51 ?_
              refine rr_get fX1_48 4 rfl rfl dX1_grow_54 ?_
              refine rr_icmp_ge 85 dX1_grow_57 (by decide) (by omega) (by omega) (fun c_5 => ?_) (fun c_5 => ?_)
              · skip
                exfalso; omega
              · skip
                refine rr_aload_n 0 dX1_grow_60 rfl ?_
                refine rr_bipush dX1_grow_61 (by decide) ?_
                refine rr_iload_n 3 dX1_grow_63 rfl ?_
                refine rr_imul dX1_grow_64 ?_
                refine rr_iload 5 dX1_grow_65 rfl ?_
                refine rr_iadd dX1_grow_67 ?_
                refine rr_top (b := ↑(8 * pa + k)) (by omega) ?_
                refine rr_aload_n 0 dX1_grow_68 rfl ?_
                refine rr_iload 4 dX1_grow_69 rfl ?_
                refine rr_iload 5 dX1_grow_71 rfl ?_
                refine rr_callFi (ws2 := [(o, ob 1 [.ref p, .ref fl, .ref ln, .ref mt, .int (zz ↑fr), .int (zz (↑(Q2.length)))]), (fl, hO (tnF np kd lf qt wd (stF (fdF kd np 0) f2 pl) k)), (ln, aI E 8000 lin2), (mt, aI E 250 mts2), (p, ob 2 [.ref pK, .ref pL, .ref pQ, .ref pW, .ref pX, .ref pY, .ref pS, .int (zz ↑np), .int (zz ↑nr)]), (pK, aI E 7 kd), (pL, aI E 7 lf), (pQ, aI E 7 qt), (pW, aI E 10 wd)]) (wr := [(ln, aI E 8000 lin2), (mt, aI E 250 mts2)]) (call_V (q0 := 0) kX1_53 (c_after E (d + 0) p pK pL pQ pW pX pY pS np nr o fl ln mt fr Q2 kd lf qt wd f2 pl k hp (by omega) (by omega) (by omega)) rfl rfl rfl rfl (by omega) (by decide) (Nat.le_of_ble_eq_true rfl) (Nat.le_of_ble_eq_true rfl) dX1_grow_73) [0, 1, 4, 5, 6, 7, 8] [2, 3] [2, 3, 0, 1, 4, 5, 6, 7, 8] rfl rfl rfl rfl rfl rfl rfl ?_
                refine rr_call (wr := [(fl, hO (tnF np kd lf qt wd (stF (fdF kd np 0) f2 pl) k)), (p, ob 2 [.ref pK, .ref pL, .ref pQ, .ref pW, .ref pX, .ref pY, .ref pS, .int (zz ↑np), .int (zz ↑nr)]), (pK, aI E 7 kd), (pL, aI E 7 lf), (pQ, aI E 7 qt), (pW, aI E 10 wd)]) (call_V (q0 := 0) kX1_40 (c_meet E (d + 4) p fl o ln mt fr Q2 lin2 mts2 (8 * pa + k) (nxF np kd lf qt wd (f2 5) pl k) hq (by omega) (by omega)) rfl rfl rfl rfl (by omega) (by decide) (Nat.le_of_ble_eq_true rfl) (Nat.le_of_ble_eq_true rfl) dX1_grow_76) [0, 2, 3] [1, 4, 5, 6, 7, 8] rfl rfl rfl rfl rfl (Nat.zero_le _) (Nat.zero_le _) (fun v w1 hp => ?_)
                obtain ⟨rfl, lin3, mts3, hq2, rfl⟩ := hp
                refine RR.ws (ws2 := [(o, ob 1 [.ref p, .ref fl, .ref ln, .ref mt, .int (zz ↑fr), .int (zz (↑((mtF Q2 ((8 * pa + k), (nxF np kd lf qt wd (f2 5) pl k))).length)))]), (fl, hO (tnF np kd lf qt wd (stF (fdF kd np 0) f2 pl) k)), (ln, aI E 8000 lin3), (mt, aI E 250 mts3), (p, ob 2 [.ref pK, .ref pL, .ref pQ, .ref pW, .ref pX, .ref pY, .ref pS, .int (zz ↑np), .int (zz ↑nr)]), (pK, aI E 7 kd), (pL, aI E 7 lf), (pQ, aI E 7 qt), (pW, aI E 10 wd)]) [6, 0, 7, 8, 1, 2, 3, 4, 5] rfl rfl ?_
                refine RR.eq (st2 := []) rfl rfl rfl rfl ?_
                refine rr_iinc (lv2 := [(0, .ref o), (1, .int (zz (↑(Q.length)))), (2, .int (zz ↑i)), (3, .int (zz ↑pa)), (4, .int (zz ↑pl)), (5, .int (zz (↑(k + 1))))]) 5 dX1_grow_79 rfl (by decide) rfl ?_
                refine rr_goto 48 dX1_grow_82 (by decide) ?_
                exact ih2 (k + 1) (mtF Q2 ((8 * pa + k), (nxF np kd lf qt wd (f2 5) pl k))) (tnF np kd lf qt wd (stF (fdF kd np 0) f2 pl) k) lin3 mts3 (by omega) (Nat.le_trans k2 mtF_len) hq2 k5 (fun j hj => by rw [mtF_getD (by omega)]; exact k6 j hj) (by rw [k5]; exact k4)
          exact lq np 0 Q1 f1 lin1 mts1 (by omega) h2 hq h5 h6 h4
  refine rr_aload_n 0 dX1_grow_0 rfl ?_
  refine rr_get fX1_33 0 rfl rfl dX1_grow_1 ?_
  refine rr_istore_n (lv2 := [(0, .ref o), (1, .int (zz (↑(Q.length))))]) dX1_grow_4 (by decide) rfl ?_
  refine rr_aload_n 0 dX1_grow_5 rfl ?_
  refine rr_get fX1_29 0 rfl rfl dX1_grow_6 ?_
  refine rr_istore_n (lv2 := [(0, .ref o), (1, .int (zz (↑(Q.length)))), (2, .int (zz ↑fr))]) dX1_grow_9 (by decide) rfl ?_
  exact lp (Q.length - fr) fr Q f lin mts (by omega) (Nat.le_refl _) hq rfl (fun j hj => hpa _ (List.mem_of_getElem? (Q_at hj))) rfl
