set_option maxRecDepth 100000 in
set_option maxHeartbeats 400000 in
theorem c_way_y (E : Ev) (d : Nat) (x s p z a b c f k q o : Nat) (pK pL pQ pW pX pY pS : Nat) (np nr : Nat) (fl ln mt fr : Nat) (Q : Qu) (rx ry kd lf qt wd h f0 lin0 mts0 : Nat → Int) (hp : pOK np kd lf qt wd) (ho : hOK h) (hr : rOK nr rx ry) (r : Nat) (hrn : r < nr) (k1 : Int) (hk : -1 ≤ k1 ∧ k1 ≤ 5) : SP E mX6_way (d + 6) 0 0 [.ref x, .int (zz ↑r), .int (zz k1)] [(x, ob 6 [.ref s, .ref p, .ref z, .ref a, .ref b, .ref c, .ref f, .ref k, .ref q, .ref o]), (o, ob 1 [.ref p, .ref fl, .ref ln, .ref mt, .int (zz ↑fr), .int (zz (↑(Q.length)))]), (fl, hO f0), (ln, aI E 8000 lin0), (mt, aI E 250 mts0), (p, ob 2 [.ref pK, .ref pL, .ref pQ, .ref pW, .ref pX, .ref pY, .ref pS, .int (zz ↑np), .int (zz ↑nr)]), (pK, aI E 7 kd), (pL, aI E 7 lf), (pQ, aI E 7 qt), (pW, aI E 10 wd), (pX, aI E 6 rx), (pY, aI E 6 ry), (a, hO h)] (fun v w => v = some (.int (zz (wyF (nxF np kd lf qt wd (h 5)) np (rx r) (ry r) k1 7 0 ([(0, plN np kd h)] : Qu) 0))) ∧ ∃ (fr2 : Nat) (Q2 : Qu) (f2 lin2 mts2 : Nat → Int), w = [(x, ob 6 [.ref s, .ref p, .ref z, .ref a, .ref b, .ref c, .ref f, .ref k, .ref q, .ref o]), (o, ob 1 [.ref p, .ref fl, .ref ln, .ref mt, .int (zz ↑fr2), .int (zz (↑(Q2.length)))]), (fl, hO f2), (ln, aI E 8000 lin2), (mt, aI E 250 mts2), (p, ob 2 [.ref pK, .ref pL, .ref pQ, .ref pW, .ref pX, .ref pY, .ref pS, .int (zz ↑np), .int (zz ↑nr)]), (pK, aI E 7 kd), (pL, aI E 7 lf), (pQ, aI E 7 qt), (pW, aI E 10 wd), (pX, aI E 6 rx), (pY, aI E 6 ry), (a, hO h)]) := by
  show RR E mX6_way (d + 6) 0 0 0 [(0, .ref x), (1, .int (zz ↑r)), (2, .int (zz k1))] [] [(x, ob 6 [.ref s, .ref p, .ref z, .ref a, .ref b, .ref c, .ref f, .ref k, .ref q, .ref o]), (o, ob 1 [.ref p, .ref fl, .ref ln, .ref mt, .int (zz ↑fr), .int (zz (↑(Q.length)))]), (fl, hO f0), (ln, aI E 8000 lin0), (mt, aI E 250 mts0), (p, ob 2 [.ref pK, .ref pL, .ref pQ, .ref pW, .ref pX, .ref pY, .ref pS, .int (zz ↑np), .int (zz ↑nr)]), (pK, aI E 7 kd), (pL, aI E 7 lf), (pQ, aI E 7 qt), (pW, aI E 10 wd), (pX, aI E 6 rx), (pY, aI E 6 ry), (a, hO h)] (fun v w => v = some (.int (zz (wyF (nxF np kd lf qt wd (h 5)) np (rx r) (ry r) k1 7 0 ([(0, plN np kd h)] : Qu) 0))) ∧ ∃ (fr2 : Nat) (Q2 : Qu) (f2 lin2 mts2 : Nat → Int), w = [(x, ob 6 [.ref s, .ref p, .ref z, .ref a, .ref b, .ref c, .ref f, .ref k, .ref q, .ref o]), (o, ob 1 [.ref p, .ref fl, .ref ln, .ref mt, .int (zz ↑fr2), .int (zz (↑(Q2.length)))]), (fl, hO f2), (ln, aI E 8000 lin2), (mt, aI E 250 mts2), (p, ob 2 [.ref pK, .ref pL, .ref pQ, .ref pW, .ref pX, .ref pY, .ref pS, .int (zz ↑np), .int (zz ↑nr)]), (pK, aI E 7 kd), (pL, aI E 7 lf), (pQ, aI E 7 qt), (pW, aI E 10 wd), (pX, aI E 6 rx), (pY, aI E 6 ry), (a, hO h)])
  obtain ⟨o0, o1, o2, o3, o5, o6⟩ := id ho
  have hn := hp.1
  have hr1 := hr.1
  obtain ⟨x0, y0⟩ := hr.2 r hrn
  have lp : ∀ (n t fr1 : Nat) (Q1 : Qu) (f1 lin1 mts1 : Nat → Int), t + n = 7 → f1 5 = h 5 → QI lin1 mts1 Q1 → fr1 ≤ Q1.length → (∀ e ∈ Q1, e.1 < 8 ^ t) → wyF (nxF np kd lf qt wd (h 5)) np (rx r) (ry r) k1 n t Q1 fr1 = wyF (nxF np kd lf qt wd (h 5)) np (rx r) (ry r) k1 7 0 ([(0, plN np kd h)] : Qu) 0 → RR E mX6_way (d + 6) 0 0 37 [(0, .ref x), (1, .int (zz ↑r)), (2, .int (zz k1)), (3, .int (zz ↑t))] [] [(x, ob 6 [.ref s, .ref p, .ref z, .ref a, .ref b, .ref c, .ref f, .ref k, .ref q, .ref o]), (o, ob 1 [.ref p, .ref fl, .ref ln, .ref mt, .int (zz ↑fr1), .int (zz (↑(Q1.length)))]), (fl, hO f1), (ln, aI E 8000 lin1), (mt, aI E 250 mts1), (p, ob 2 [.ref pK, .ref pL, .ref pQ, .ref pW, .ref pX, .ref pY, .ref pS, .int (zz ↑np), .int (zz ↑nr)]), (pK, aI E 7 kd), (pL, aI E 7 lf), (pQ, aI E 7 qt), (pW, aI E 10 wd), (pX, aI E 6 rx), (pY, aI E 6 ry), (a, hO h)] (fun v w => v = some (.int (zz (wyF (nxF np kd lf qt wd (h 5)) np (rx r) (ry r) k1 7 0 ([(0, plN np kd h)] : Qu) 0))) ∧ ∃ (fr2 : Nat) (Q2 : Qu) (f2 lin2 mts2 : Nat → Int), w = [(x, ob 6 [.ref s, .ref p, .ref z, .ref a, .ref b, .ref c, .ref f, .ref k, .ref q, .ref o]), (o, ob 1 [.ref p, .ref fl, .ref ln, .ref mt, .int (zz ↑fr2), .int (zz (↑(Q2.length)))]), (fl, hO f2), (ln, aI E 8000 lin2), (mt, aI E 250 mts2), (p, ob 2 [.ref pK, .ref pL, .ref pQ, .ref pW, .ref pX, .ref pY, .ref pS, .int (zz ↑np), .int (zz ↑nr)]), (pK, aI E 7 kd), (pL, aI E 7 lf), (pQ, aI E 7 qt), (pW, aI E 10 wd), (pX, aI E 6 rx), (pY, aI E 6 ry), (a, hO h)]) := by
    intro n
    induction n with
    | zero =>
      intro t fr1 Q1 f1 lin1 mts1 h1 h5 hq hfr h6 h4
      rw [wyF] at h4
      refine rr_iload_n 3 dX6_way_37 rfl ?_
      refine rr_bipush dX6_way_38 (by decide) ?_
      refine rr_icmp_gt 110 dX6_way_40 (by decide) (by omega) (by omega) (fun c_1 => ?_) (fun c_1 => ?_)
      · skip
        refine rr_bipush dX6_way_110 (by decide) ?_
        exact rr_iret dX6_way_112 rfl rfl ⟨by rw [← h4], fr1, Q1, f1, lin1, mts1, rfl⟩
      · skip
        exfalso; omega
    | succ n ih =>
      intro t fr1 Q1 f1 lin1 mts1 h1 h5 hq hfr h6 h4
      rw [wyF] at h4
      have hpow : 8 ^ t ≤ 8 ^ 6 := Nat.pow_le_pow_right (by omega) (by omega)
      have hpa : ∀ e ∈ Q1, e.1 < 262144 := fun e he => Nat.lt_of_lt_of_le (h6 e he) hpow
      have hpt := ptF_rg (x := rx r) (y := ry r) hpa (Q1.length - fr1) fr1 (by omega)
      have hqz := hq.1
      refine rr_iload_n 3 dX6_way_37 rfl ?_
      refine rr_bipush dX6_way_38 (by decide) ?_
      refine rr_icmp_gt 110 dX6_way_40 (by decide) (by omega) (by omega) (fun c_2 => ?_) (fun c_2 => ?_)
      · skip
        exfalso; omega
      · skip
        refine rr_aload_n 0 dX6_way_43 rfl ?_
        refine rr_get fX6_63 0 rfl rfl dX6_way_44 ?_
        refine rr_aload_n 0 dX6_way_47 rfl ?_
        refine rr_get fX6_19 0 rfl rfl dX6_way_48 ?_
        refine rr_get fX6_132 5 rfl rfl dX6_way_51 ?_
        refine rr_iload_n 1 dX6_way_54 rfl ?_
        refine rr_iald 10 r rfl rfl (by omega) (by omega) dX6_way_55 ?_
        refine rr_aload_n 0 dX6_way_56 rfl ?_
        refine rr_get fX6_19 0 rfl rfl dX6_way_57 ?_
        refine rr_get fX6_135 5 rfl rfl dX6_way_60 ?_
        refine rr_iload_n 1 dX6_way_63 rfl ?_
        refine rr_iald 11 r rfl rfl (by omega) (by omega) dX6_way_64 ?_
        refine rr_call (wr := [(x, ob 6 [.ref s, .ref p, .ref z, .ref a, .ref b, .ref c, .ref f, .ref k, .ref q, .ref o]), (mt, aI E 250 mts1), (pL, aI E 7 lf), (pQ, aI E 7 qt), (pW, aI E 10 wd), (pX, aI E 6 rx), (pY, aI E 6 ry), (a, hO h)]) (call_V (q0 := 0) kX6_189 (c_pathTo E (d + 3) p pK pL pQ pW pX pY pS np nr o fl ln mt fr1 Q1 kd lf qt wd f1 lin1 mts1 (rx r) (ry r) hp (by omega) hq hfr hpa (by omega) (by omega)) rfl rfl rfl rfl (by omega) (by decide) (Nat.le_of_ble_eq_true rfl) (Nat.le_of_ble_eq_true rfl) dX6_way_65) [1, 2, 3, 5, 6] [0, 4, 7, 8, 9, 10, 11, 12] rfl rfl rfl rfl rfl (Nat.zero_le _) (Nat.zero_le _) (fun v w1 hp1 => ?_)
        obtain ⟨rfl, f3, hf3, rfl⟩ := hp1
        refine RR.ws (ws2 := [(x, ob 6 [.ref s, .ref p, .ref z, .ref a, .ref b, .ref c, .ref f, .ref k, .ref q, .ref o]), (o, ob 1 [.ref p, .ref fl, .ref ln, .ref mt, .int (zz ↑fr1), .int (zz (↑(Q1.length)))]), (fl, hO f3), (ln, aI E 8000 lin1), (mt, aI E 250 mts1), (p, ob 2 [.ref pK, .ref pL, .ref pQ, .ref pW, .ref pX, .ref pY, .ref pS, .int (zz ↑np), .int (zz ↑nr)]), (pK, aI E 7 kd), (pL, aI E 7 lf), (pQ, aI E 7 qt), (pW, aI E 10 wd), (pX, aI E 6 rx), (pY, aI E 6 ry), (a, hO h)]) [0, 8, 9, 10, 1, 11, 12, 2, 3, 4, 5, 6, 7] rfl rfl ?_
        refine RR.eq (st2 := [.int (zz (ptF Q1 (rx r) (ry r) (Q1.length - fr1) fr1))]) rfl rfl rfl rfl ?_
        refine rr_istore (lv2 := [(0, .ref x), (1, .int (zz ↑r)), (2, .int (zz k1)), (3, .int (zz ↑t)), (4, .int (zz (ptF Q1 (rx r) (ry r) (Q1.length - fr1) fr1)))]) dX6_way_68 (by decide) rfl ?_
        refine rr_iload 4 dX6_way_70 rfl ?_
        refine rr_if_lt 91 dX6_way_72 (by decide) (by omega) (fun c_3 => ?_) (fun c_3 => ?_)
        · skip
          refine rr_iload_n 3 dX6_way_91 rfl ?_
          refine rr_bipush dX6_way_92 (by decide) ?_
          refine rr_icmp_ge 104 dX6_way_94 (by decide) (by omega) (by omega) (fun c_4 => ?_) (fun c_4 => ?_)
          · skip
            refine rr_iinc (lv2 := [(0, .ref x), (1, .int (zz ↑r)), (2, .int (zz k1)), (3, .int (zz (↑(t + 1)))), (4, .int (zz (ptF Q1 (rx r) (ry r) (Q1.length - fr1) fr1)))]) 3 dX6_way_104 rfl (by decide) rfl ?_
            refine rr_goto 37 dX6_way_107 (by decide) ?_
            rw [if_neg (by omega)] at h4
            refine RR.lv [0, 1, 2, 3] rfl ?_
            obtain rfl : n = 0 := by omega
            exact ih (t + 1) fr1 Q1 f3 lin1 mts1 (by omega) (hf3.trans h5) hq hfr (fun e he => Nat.lt_of_lt_of_le (h6 e he) (Nat.pow_le_pow_right (by omega) (by omega))) (by rw [wyF] at h4 ⊢; exact h4)
          · skip
            refine rr_aload_n 0 dX6_way_97 rfl ?_
            refine rr_get fX6_63 0 rfl rfl dX6_way_98 ?_
            refine rr_call (wr := [(x, ob 6 [.ref s, .ref p, .ref z, .ref a, .ref b, .ref c, .ref f, .ref k, .ref q, .ref o]), (pX, aI E 6 rx), (pY, aI E 6 ry), (a, hO h)]) (call_V (q0 := 0) kX6_197 (c_grow E (d + 0) p pK pL pQ pW pX pY pS np nr o fl ln mt fr1 Q1 kd lf qt wd f3 lin1 mts1 hp (by omega) hq hfr (fun e he => Nat.lt_of_lt_of_le (h6 e he) (show 8 ^ t ≤ 32768 from Nat.pow_le_pow_right (n := 8) (j := 5) (by omega) (by omega)))) rfl rfl rfl rfl (by omega) (by decide) (Nat.le_of_ble_eq_true rfl) (Nat.le_of_ble_eq_true rfl) dX6_way_101) [1, 2, 3, 4, 5, 6, 7, 8, 9] [0, 10, 11, 12] rfl rfl rfl rfl rfl (Nat.zero_le _) (Nat.zero_le _) (fun v w1 hp1 => ?_)
            obtain ⟨rfl, f4, lin4, mts4, h5g, hqg, rfl⟩ := hp1
            refine RR.eq (st2 := []) (ws2 := [(x, ob 6 [.ref s, .ref p, .ref z, .ref a, .ref b, .ref c, .ref f, .ref k, .ref q, .ref o]), (pX, aI E 6 rx), (pY, aI E 6 ry), (a, hO h), (o, ob 1 [.ref p, .ref fl, .ref ln, .ref mt, .int (zz (↑(Q1.length))), .int (zz (↑((grF (nxF np kd lf qt wd (f3 5)) np (Q1.length - fr1) fr1 Q1).length)))]), (fl, hO f4), (ln, aI E 8000 lin4), (mt, aI E 250 mts4), (p, ob 2 [.ref pK, .ref pL, .ref pQ, .ref pW, .ref pX, .ref pY, .ref pS, .int (zz ↑np), .int (zz ↑nr)]), (pK, aI E 7 kd), (pL, aI E 7 lf), (pQ, aI E 7 qt), (pW, aI E 10 wd)]) rfl rfl rfl rfl ?_
            refine rr_iinc (lv2 := [(0, .ref x), (1, .int (zz ↑r)), (2, .int (zz k1)), (3, .int (zz (↑(t + 1)))), (4, .int (zz (ptF Q1 (rx r) (ry r) (Q1.length - fr1) fr1)))]) 3 dX6_way_104 rfl (by decide) rfl ?_
            refine rr_goto 37 dX6_way_107 (by decide) ?_
            rw [if_neg (by omega)] at h4
            refine RR.ws (ws2 := [(x, ob 6 [.ref s, .ref p, .ref z, .ref a, .ref b, .ref c, .ref f, .ref k, .ref q, .ref o]), (o, ob 1 [.ref p, .ref fl, .ref ln, .ref mt, .int (zz (↑(Q1.length))), .int (zz (↑((grF (nxF np kd lf qt wd (f3 5)) np (Q1.length - fr1) fr1 Q1).length)))]), (fl, hO f4), (ln, aI E 8000 lin4), (mt, aI E 250 mts4), (p, ob 2 [.ref pK, .ref pL, .ref pQ, .ref pW, .ref pX, .ref pY, .ref pS, .int (zz ↑np), .int (zz ↑nr)]), (pK, aI E 7 kd), (pL, aI E 7 lf), (pQ, aI E 7 qt), (pW, aI E 10 wd), (pX, aI E 6 rx), (pY, aI E 6 ry), (a, hO h)]) [0, 4, 5, 6, 7, 8, 9, 10, 11, 12, 1, 2, 3] rfl rfl ?_
            refine RR.lv [0, 1, 2, 3] rfl ?_
            have e3 : f3 5 = h 5 := hf3.trans h5
            exact ih (t + 1) Q1.length (grF (nxF np kd lf qt wd (f3 5)) np (Q1.length - fr1) fr1 Q1) f4 lin4 mts4 (by omega) (h5g.trans e3) hqg (grF_len _ _ _ _ _) (grF_step (by omega) hfr h6) (by rw [e3]; exact h4)
        · skip
          refine rr_iload_n 2 dX6_way_75 rfl ?_
          refine rr_if_ge 83 dX6_way_76 (by decide) (by omega) (fun c_5 => ?_) (fun c_5 => ?_)
          · skip
            obtain ⟨kk, rfl⟩ : ∃ kk : Nat, k1 = (kk : Int) := ⟨k1.toNat, by omega⟩
            obtain ⟨pa, hpae⟩ : ∃ pa : Nat, ptF Q1 (rx r) (ry r) (Q1.length - fr1) fr1 = (pa : Int) := ⟨(ptF Q1 (rx r) (ry r) (Q1.length - fr1) fr1).toNat, by omega⟩
            refine RR.eq (lv2 := [(0, .ref x), (1, .int (zz ↑r)), (2, .int (zz ↑kk)), (3, .int (zz ↑t)), (4, .int (zz ↑pa))]) rfl (by rw [hpae]) rfl rfl ?_
            refine rr_iload 4 dX6_way_83 rfl ?_
            refine rr_iload_n 3 dX6_way_85 rfl ?_
            refine rr_iload_n 2 dX6_way_86 rfl ?_
            by_cases hkt : kk < t
            · skip
              refine rr_callFi (ws2 := [(x, ob 6 [.ref s, .ref p, .ref z, .ref a, .ref b, .ref c, .ref f, .ref k, .ref q, .ref o]), (o, ob 1 [.ref p, .ref fl, .ref ln, .ref mt, .int (zz ↑fr1), .int (zz (↑(Q1.length)))]), (fl, hO f3), (ln, aI E 8000 lin1), (mt, aI E 250 mts1), (p, ob 2 [.ref pK, .ref pL, .ref pQ, .ref pW, .ref pX, .ref pY, .ref pS, .int (zz ↑np), .int (zz ↑nr)]), (pK, aI E 7 kd), (pL, aI E 7 lf), (pQ, aI E 7 qt), (pW, aI E 10 wd), (pX, aI E 6 rx), (pY, aI E 6 ry), (a, hO h)]) (wr := [(x, ob 6 [.ref s, .ref p, .ref z, .ref a, .ref b, .ref c, .ref f, .ref k, .ref q, .ref o]), (o, ob 1 [.ref p, .ref fl, .ref ln, .ref mt, .int (zz ↑fr1), .int (zz (↑(Q1.length)))]), (fl, hO f3), (ln, aI E 8000 lin1), (mt, aI E 250 mts1), (p, ob 2 [.ref pK, .ref pL, .ref pQ, .ref pW, .ref pX, .ref pY, .ref pS, .int (zz ↑np), .int (zz ↑nr)]), (pK, aI E 7 kd), (pL, aI E 7 lf), (pQ, aI E 7 qt), (pW, aI E 10 wd), (pX, aI E 6 rx), (pY, aI E 6 ry), (a, hO h)]) (call_S kX6_193 (c_pegOfPath_y E (d + 5) pa t kk (by omega) (by omega) hkt) rfl (by omega) (by decide) (Nat.le_of_ble_eq_true rfl) (Nat.le_of_ble_eq_true rfl) dX6_way_87) [] [0, 1, 2, 3, 4, 5, 6, 7, 8, 9, 10, 11, 12] [0, 1, 2, 3, 4, 5, 6, 7, 8, 9, 10, 11, 12] rfl rfl rfl rfl rfl rfl rfl ?_
              exact rr_iret dX6_way_90 rfl rfl ⟨by rw [← h4, if_pos (by omega), if_neg (by omega), hpae, Int.toNat_natCast]; unfold pgF; rw [if_pos (by omega), Int.toNat_natCast], fr1, Q1, f3, lin1, mts1, rfl⟩
            · skip
              refine rr_callFi (ws2 := [(x, ob 6 [.ref s, .ref p, .ref z, .ref a, .ref b, .ref c, .ref f, .ref k, .ref q, .ref o]), (o, ob 1 [.ref p, .ref fl, .ref ln, .ref mt, .int (zz ↑fr1), .int (zz (↑(Q1.length)))]), (fl, hO f3), (ln, aI E 8000 lin1), (mt, aI E 250 mts1), (p, ob 2 [.ref pK, .ref pL, .ref pQ, .ref pW, .ref pX, .ref pY, .ref pS, .int (zz ↑np), .int (zz ↑nr)]), (pK, aI E 7 kd), (pL, aI E 7 lf), (pQ, aI E 7 qt), (pW, aI E 10 wd), (pX, aI E 6 rx), (pY, aI E 6 ry), (a, hO h)]) (wr := [(x, ob 6 [.ref s, .ref p, .ref z, .ref a, .ref b, .ref c, .ref f, .ref k, .ref q, .ref o]), (o, ob 1 [.ref p, .ref fl, .ref ln, .ref mt, .int (zz ↑fr1), .int (zz (↑(Q1.length)))]), (fl, hO f3), (ln, aI E 8000 lin1), (mt, aI E 250 mts1), (p, ob 2 [.ref pK, .ref pL, .ref pQ, .ref pW, .ref pX, .ref pY, .ref pS, .int (zz ↑np), .int (zz ↑nr)]), (pK, aI E 7 kd), (pL, aI E 7 lf), (pQ, aI E 7 qt), (pW, aI E 10 wd), (pX, aI E 6 rx), (pY, aI E 6 ry), (a, hO h)]) (call_S kX6_193 (c_pegOfPath_n E (d + 5) pa t kk (by omega)) rfl (by omega) (by decide) (Nat.le_of_ble_eq_true rfl) (Nat.le_of_ble_eq_true rfl) dX6_way_87) [] [0, 1, 2, 3, 4, 5, 6, 7, 8, 9, 10, 11, 12] [0, 1, 2, 3, 4, 5, 6, 7, 8, 9, 10, 11, 12] rfl rfl rfl rfl rfl rfl rfl ?_
              exact rr_iret dX6_way_90 rfl rfl ⟨by rw [← h4, if_pos (by omega), if_neg (by omega)]; unfold pgF; rw [if_neg (by omega)], fr1, Q1, f3, lin1, mts1, rfl⟩
          · skip
            refine rr_iload_n 3 dX6_way_79 rfl ?_
            refine rr_goto 90 dX6_way_80 (by decide) ?_
            exact rr_iret dX6_way_90 rfl rfl ⟨by rw [← h4, if_pos (by omega), if_pos (by omega)], fr1, Q1, f3, lin1, mts1, rfl⟩
  refine rr_aload_n 0 dX6_way_0 rfl ?_
  refine rr_get fX6_19 0 rfl rfl dX6_way_1 ?_
  refine rr_iload_n 1 dX6_way_4 rfl ?_
  refine rr_callFi (ws2 := [(x, ob 6 [.ref s, .ref p, .ref z, .ref a, .ref b, .ref c, .ref f, .ref k, .ref q, .ref o]), (o, ob 1 [.ref p, .ref fl, .ref ln, .ref mt, .int (zz ↑fr), .int (zz (↑(Q.length)))]), (fl, hO f0), (ln, aI E 8000 lin0), (mt, aI E 250 mts0), (p, ob 2 [.ref pK, .ref pL, .ref pQ, .ref pW, .ref pX, .ref pY, .ref pS, .int (zz ↑np), .int (zz ↑nr)]), (pK, aI E 7 kd), (pL, aI E 7 lf), (pQ, aI E 7 qt), (pW, aI E 10 wd), (pX, aI E 6 rx), (pY, aI E 6 ry), (a, hO h)]) (wr := [(x, ob 6 [.ref s, .ref p, .ref z, .ref a, .ref b, .ref c, .ref f, .ref k, .ref q, .ref o]), (o, ob 1 [.ref p, .ref fl, .ref ln, .ref mt, .int (zz ↑fr), .int (zz (↑(Q.length)))]), (fl, hO f0), (ln, aI E 8000 lin0), (mt, aI E 250 mts0), (pK, aI E 7 kd), (pL, aI E 7 lf), (pQ, aI E 7 qt), (pW, aI E 10 wd), (pX, aI E 6 rx), (pY, aI E 6 ry), (a, hO h)]) (call_V (q0 := 0) kX6_129 (c_hasRoof E (d + 5) p pK pL pQ pW pX pY pS np nr ↑r (by omega) (by omega)) rfl rfl rfl rfl (by omega) (by decide) (Nat.le_of_ble_eq_true rfl) (Nat.le_of_ble_eq_true rfl) dX6_way_5) [5] [0, 1, 2, 3, 4, 6, 7, 8, 9, 10, 11, 12] [0, 1, 2, 3, 4, 12, 5, 6, 7, 8, 9, 10, 11] rfl rfl rfl rfl rfl rfl rfl ?_
  refine rr_if_eqD 22 dX6_way_8 (by decide) (fun c_6 => ?_) (fun c_6 => ?_)
  · skip
    exfalso; omega
  · skip
    refine rr_iload_n 2 dX6_way_11 rfl ?_
    refine rr_iconst dX6_way_12 ?_
    refine rr_icmp_lt 22 dX6_way_13 (by decide) (by omega) (by omega) (fun c_7 => ?_) (fun c_7 => ?_)
    · skip
      exfalso; omega
    · skip
      refine rr_iload_n 2 dX6_way_16 rfl ?_
      refine rr_bipush dX6_way_17 (by decide) ?_
      refine rr_icmp_lt 24 dX6_way_19 (by decide) (by omega) (by omega) (fun c_8 => ?_) (fun c_8 => ?_)
      · skip
        refine rr_aload_n 0 dX6_way_24 rfl ?_
        refine rr_get fX6_63 0 rfl rfl dX6_way_25 ?_
        refine rr_aload_n 0 dX6_way_28 rfl ?_
        refine rr_get fX6_29 0 rfl rfl dX6_way_29 ?_
        refine rr_call (wr := [(x, ob 6 [.ref s, .ref p, .ref z, .ref a, .ref b, .ref c, .ref f, .ref k, .ref q, .ref o]), (pL, aI E 7 lf), (pQ, aI E 7 qt), (pW, aI E 10 wd), (pX, aI E 6 rx), (pY, aI E 6 ry)]) (call_V (q0 := 0) kX6_186 (c_beginO E (d + 1) p pK pL pQ pW pX pY pS np nr o fl ln mt fr Q a kd lf qt wd f0 h lin0 mts0 hp ho) rfl rfl rfl rfl (by omega) (by decide) (Nat.le_of_ble_eq_true rfl) (Nat.le_of_ble_eq_true rfl) dX6_way_32) [1, 2, 3, 4, 5, 6, 12] [0, 7, 8, 9, 10, 11] rfl rfl rfl rfl rfl (Nat.zero_le _) (Nat.zero_le _) (fun v w1 hp1 => ?_)
        obtain ⟨rfl, lin9, mts9, hq0, rfl⟩ := hp1
        refine RR.eq (st2 := []) (ws2 := [(x, ob 6 [.ref s, .ref p, .ref z, .ref a, .ref b, .ref c, .ref f, .ref k, .ref q, .ref o]), (pL, aI E 7 lf), (pQ, aI E 7 qt), (pW, aI E 10 wd), (pX, aI E 6 rx), (pY, aI E 6 ry), (o, ob 1 [.ref p, .ref fl, .ref ln, .ref mt, .int (zz ↑0), .int (zz (↑(([(0, plN np kd h)] : Qu).length)))]), (fl, hO (updI f0 5 (h 5))), (ln, aI E 8000 lin9), (mt, aI E 250 mts9), (p, ob 2 [.ref pK, .ref pL, .ref pQ, .ref pW, .ref pX, .ref pY, .ref pS, .int (zz ↑np), .int (zz ↑nr)]), (pK, aI E 7 kd), (a, hO h)]) rfl rfl rfl rfl ?_
        refine rr_iconst dX6_way_35 ?_
        refine rr_istore_n (lv2 := [(0, .ref x), (1, .int (zz ↑r)), (2, .int (zz k1)), (3, .int (zz 0))]) dX6_way_36 (by decide) rfl ?_
        refine RR.ws (ws2 := [(x, ob 6 [.ref s, .ref p, .ref z, .ref a, .ref b, .ref c, .ref f, .ref k, .ref q, .ref o]), (o, ob 1 [.ref p, .ref fl, .ref ln, .ref mt, .int (zz ↑0), .int (zz (↑(([(0, plN np kd h)] : Qu).length)))]), (fl, hO (updI f0 5 (h 5))), (ln, aI E 8000 lin9), (mt, aI E 250 mts9), (p, ob 2 [.ref pK, .ref pL, .ref pQ, .ref pW, .ref pX, .ref pY, .ref pS, .int (zz ↑np), .int (zz ↑nr)]), (pK, aI E 7 kd), (pL, aI E 7 lf), (pQ, aI E 7 qt), (pW, aI E 10 wd), (pX, aI E 6 rx), (pY, aI E 6 ry), (a, hO h)]) [0, 6, 7, 8, 9, 10, 11, 1, 2, 3, 4, 5, 12] rfl rfl ?_
        exact lp 7 0 0 ([(0, plN np kd h)] : Qu) (updI f0 5 (h 5)) lin9 mts9 (by omega) rfl hq0 (Nat.zero_le _) (fun e he => by rw [List.mem_singleton.mp he]; exact Nat.zero_lt_one) rfl
      · skip
        exfalso; omega
set_option maxRecDepth 100000 in
set_option maxHeartbeats 400000 in
theorem c_way_bad (E : Ev) (d : Nat) (x s p z a b c f k q o : Nat) (pK pL pQ pW pX pY pS : Nat) (np nr : Nat) (y w : Int) (gy : -2147483648 ≤ y ∧ y < 2147483648) (gw : -2147483648 ≤ w ∧ w < 2147483648) (hn : nr ≤ 6) (hc : ¬ ((0 ≤ y ∧ y < (nr : Int)) ∧ -1 ≤ w ∧ w ≤ 5)) : SP E mX6_way (d + 6) 0 0 [.ref x, .int (zz y), .int (zz w)] [(x, ob 6 [.ref s, .ref p, .ref z, .ref a, .ref b, .ref c, .ref f, .ref k, .ref q, .ref o]), (p, ob 2 [.ref pK, .ref pL, .ref pQ, .ref pW, .ref pX, .ref pY, .ref pS, .int (zz ↑np), .int (zz ↑nr)])] (FP (some (.int (zz (-1)))) [(x, ob 6 [.ref s, .ref p, .ref z, .ref a, .ref b, .ref c, .ref f, .ref k, .ref q, .ref o]), (p, ob 2 [.ref pK, .ref pL, .ref pQ, .ref pW, .ref pX, .ref pY, .ref pS, .int (zz ↑np), .int (zz ↑nr)])]) := by
  show RR E mX6_way (d + 6) 0 0 0 [(0, .ref x), (1, .int (zz y)), (2, .int (zz w))] [] [(x, ob 6 [.ref s, .ref p, .ref z, .ref a, .ref b, .ref c, .ref f, .ref k, .ref q, .ref o]), (p, ob 2 [.ref pK, .ref pL, .ref pQ, .ref pW, .ref pX, .ref pY, .ref pS, .int (zz ↑np), .int (zz ↑nr)])] (FP (some (.int (zz (-1)))) [(x, ob 6 [.ref s, .ref p, .ref z, .ref a, .ref b, .ref c, .ref f, .ref k, .ref q, .ref o]), (p, ob 2 [.ref pK, .ref pL, .ref pQ, .ref pW, .ref pX, .ref pY, .ref pS, .int (zz ↑np), .int (zz ↑nr)])])
  refine rr_aload_n 0 dX6_way_0 rfl ?_
  refine rr_get fX6_19 0 rfl rfl dX6_way_1 ?_
  refine rr_iload_n 1 dX6_way_4 rfl ?_
  refine rr_callFi (ws2 := [(x, ob 6 [.ref s, .ref p, .ref z, .ref a, .ref b, .ref c, .ref f, .ref k, .ref q, .ref o]), (p, ob 2 [.ref pK, .ref pL, .ref pQ, .ref pW, .ref pX, .ref pY, .ref pS, .int (zz ↑np), .int (zz ↑nr)])]) (wr := [(x, ob 6 [.ref s, .ref p, .ref z, .ref a, .ref b, .ref c, .ref f, .ref k, .ref q, .ref o])]) (call_V (q0 := 0) kX6_129 (c_hasRoof E (d + 5) p pK pL pQ pW pX pY pS np nr y (by omega) (by omega)) rfl rfl rfl rfl (by omega) (by decide) (Nat.le_of_ble_eq_true rfl) (Nat.le_of_ble_eq_true rfl) dX6_way_5) [1] [0] [0, 1] rfl rfl rfl rfl rfl rfl rfl ?_
  refine rr_if_eqD 22 dX6_way_8 (by decide) (fun c_1 => ?_) (fun c_1 => ?_)
  · skip
    refine rr_iconst dX6_way_22 ?_
    exact rr_iret dX6_way_23 rfl rfl ⟨rfl, rfl⟩
  · skip
    refine rr_iload_n 2 dX6_way_11 rfl ?_
    refine rr_iconst dX6_way_12 ?_
    refine rr_icmp_lt 22 dX6_way_13 (by decide) (by omega) (by omega) (fun c_2 => ?_) (fun c_2 => ?_)
    · skip
      refine rr_iconst dX6_way_22 ?_
      exact rr_iret dX6_way_23 rfl rfl ⟨rfl, rfl⟩
    · skip
      refine rr_iload_n 2 dX6_way_16 rfl ?_
      refine rr_bipush dX6_way_17 (by decide) ?_
      refine rr_icmp_lt 24 dX6_way_19 (by decide) (by omega) (by omega) (fun c_3 => ?_) (fun c_3 => ?_)
      · skip
        exfalso; omega
      · skip
        refine rr_iconst dX6_way_22 ?_
        exact rr_iret dX6_way_23 rfl rfl ⟨rfl, rfl⟩
set_option maxRecDepth 100000 in
set_option maxHeartbeats 400000 in
theorem c_near_bad (E : Ev) (d : Nat) (x s p z a b c f k q o : Nat) (y : Int) (gy : -2147483648 ≤ y ∧ y < 2147483648) (hc : ¬ (0 ≤ y ∧ y ≤ 5)) : SP E mX6_near (d + 6) 0 0 [.ref x, .int (zz y)] [(x, ob 6 [.ref s, .ref p, .ref z, .ref a, .ref b, .ref c, .ref f, .ref k, .ref q, .ref o])] (FP (some (.int (zz (-1)))) [(x, ob 6 [.ref s, .ref p, .ref z, .ref a, .ref b, .ref c, .ref f, .ref k, .ref q, .ref o])]) := by
  show RR E mX6_near (d + 6) 0 0 0 [(0, .ref x), (1, .int (zz y))] [] [(x, ob 6 [.ref s, .ref p, .ref z, .ref a, .ref b, .ref c, .ref f, .ref k, .ref q, .ref o])] (FP (some (.int (zz (-1)))) [(x, ob 6 [.ref s, .ref p, .ref z, .ref a, .ref b, .ref c, .ref f, .ref k, .ref q, .ref o])])
  refine rr_iload_n 1 dX6_near_0 rfl ?_
  refine rr_if_lt 9 dX6_near_1 (by decide) (by omega) (fun c_1 => ?_) (fun c_1 => ?_)
  · skip
    refine rr_iconst dX6_near_9 ?_
    exact rr_iret dX6_near_10 rfl rfl ⟨rfl, rfl⟩
  · skip
    refine rr_iload_n 1 dX6_near_4 rfl ?_
    refine rr_iconst dX6_near_5 ?_
    refine rr_icmp_le 11 dX6_near_6 (by decide) (by omega) (by omega) (fun c_2 => ?_) (fun c_2 => ?_)
    · skip
      exfalso; omega
    · skip
      refine rr_iconst dX6_near_9 ?_
      exact rr_iret dX6_near_10 rfl rfl ⟨rfl, rfl⟩
set_option maxRecDepth 100000 in
set_option maxHeartbeats 400000 in
theorem c_near_y (E : Ev) (d : Nat) (x s p z a b c f k q o : Nat) (pK pL pQ pW pX pY pS : Nat) (np nr : Nat) (fl ln mt fr : Nat) (Q : Qu) (rx ry kd lf qt wd h f0 lin0 mts0 : Nat → Int) (hp : pOK np kd lf qt wd) (ho : hOK h) (hr : rOK nr rx ry) (m : Nat) (hm : m ≤ 5) : SP E mX6_near (d + 6) 0 0 [.ref x, .int (zz ↑m)] [(x, ob 6 [.ref s, .ref p, .ref z, .ref a, .ref b, .ref c, .ref f, .ref k, .ref q, .ref o]), (o, ob 1 [.ref p, .ref fl, .ref ln, .ref mt, .int (zz ↑fr), .int (zz (↑(Q.length)))]), (fl, hO f0), (ln, aI E 8000 lin0), (mt, aI E 250 mts0), (p, ob 2 [.ref pK, .ref pL, .ref pQ, .ref pW, .ref pX, .ref pY, .ref pS, .int (zz ↑np), .int (zz ↑nr)]), (pK, aI E 7 kd), (pL, aI E 7 lf), (pQ, aI E 7 qt), (pW, aI E 10 wd), (pX, aI E 6 rx), (pY, aI E 6 ry), (a, hO h)] (fun v w => v = some (.int (zz ((neF (nxF np kd lf qt wd (h 5)) np nr rx ry m ([(0, plN np kd h)] : Qu) 0 (rfB rx ry nr ([(0, plN np kd h)] : Qu) 0) : Nat) : Int))) ∧ ∃ (fr2 : Nat) (Q2 : Qu) (f2 lin2 mts2 : Nat → Int), w = [(x, ob 6 [.ref s, .ref p, .ref z, .ref a, .ref b, .ref c, .ref f, .ref k, .ref q, .ref o]), (o, ob 1 [.ref p, .ref fl, .ref ln, .ref mt, .int (zz ↑fr2), .int (zz (↑(Q2.length)))]), (fl, hO f2), (ln, aI E 8000 lin2), (mt, aI E 250 mts2), (p, ob 2 [.ref pK, .ref pL, .ref pQ, .ref pW, .ref pX, .ref pY, .ref pS, .int (zz ↑np), .int (zz ↑nr)]), (pK, aI E 7 kd), (pL, aI E 7 lf), (pQ, aI E 7 qt), (pW, aI E 10 wd), (pX, aI E 6 rx), (pY, aI E 6 ry), (a, hO h)]) := by
  show RR E mX6_near (d + 6) 0 0 0 [(0, .ref x), (1, .int (zz ↑m))] [] [(x, ob 6 [.ref s, .ref p, .ref z, .ref a, .ref b, .ref c, .ref f, .ref k, .ref q, .ref o]), (o, ob 1 [.ref p, .ref fl, .ref ln, .ref mt, .int (zz ↑fr), .int (zz (↑(Q.length)))]), (fl, hO f0), (ln, aI E 8000 lin0), (mt, aI E 250 mts0), (p, ob 2 [.ref pK, .ref pL, .ref pQ, .ref pW, .ref pX, .ref pY, .ref pS, .int (zz ↑np), .int (zz ↑nr)]), (pK, aI E 7 kd), (pL, aI E 7 lf), (pQ, aI E 7 qt), (pW, aI E 10 wd), (pX, aI E 6 rx), (pY, aI E 6 ry), (a, hO h)] (fun v w => v = some (.int (zz ((neF (nxF np kd lf qt wd (h 5)) np nr rx ry m ([(0, plN np kd h)] : Qu) 0 (rfB rx ry nr ([(0, plN np kd h)] : Qu) 0) : Nat) : Int))) ∧ ∃ (fr2 : Nat) (Q2 : Qu) (f2 lin2 mts2 : Nat → Int), w = [(x, ob 6 [.ref s, .ref p, .ref z, .ref a, .ref b, .ref c, .ref f, .ref k, .ref q, .ref o]), (o, ob 1 [.ref p, .ref fl, .ref ln, .ref mt, .int (zz ↑fr2), .int (zz (↑(Q2.length)))]), (fl, hO f2), (ln, aI E 8000 lin2), (mt, aI E 250 mts2), (p, ob 2 [.ref pK, .ref pL, .ref pQ, .ref pW, .ref pX, .ref pY, .ref pS, .int (zz ↑np), .int (zz ↑nr)]), (pK, aI E 7 kd), (pL, aI E 7 lf), (pQ, aI E 7 qt), (pW, aI E 10 wd), (pX, aI E 6 rx), (pY, aI E 6 ry), (a, hO h)])
  obtain ⟨o0, o1, o2, o3, o5, o6⟩ := id ho
  have hn := hp.1
  have hr1 := hr.1
  have lp : ∀ (n t fr1 acc : Nat) (Q1 : Qu) (f1 lin1 mts1 : Nat → Int), t + n = m → f1 5 = h 5 → QI lin1 mts1 Q1 → fr1 ≤ Q1.length → (∀ e ∈ Q1, e.1 < 8 ^ t) → neF (nxF np kd lf qt wd (h 5)) np nr rx ry n Q1 fr1 acc = neF (nxF np kd lf qt wd (h 5)) np nr rx ry m ([(0, plN np kd h)] : Qu) 0 (rfB rx ry nr ([(0, plN np kd h)] : Qu) 0) → RR E mX6_near (d + 6) 0 0 32 [(0, .ref x), (1, .int (zz ↑m)), (2, .int (zz ↑acc)), (3, .int (zz ↑t))] [] [(x, ob 6 [.ref s, .ref p, .ref z, .ref a, .ref b, .ref c, .ref f, .ref k, .ref q, .ref o]), (o, ob 1 [.ref p, .ref fl, .ref ln, .ref mt, .int (zz ↑fr1), .int (zz (↑(Q1.length)))]), (fl, hO f1), (ln, aI E 8000 lin1), (mt, aI E 250 mts1), (p, ob 2 [.ref pK, .ref pL, .ref pQ, .ref pW, .ref pX, .ref pY, .ref pS, .int (zz ↑np), .int (zz ↑nr)]), (pK, aI E 7 kd), (pL, aI E 7 lf), (pQ, aI E 7 qt), (pW, aI E 10 wd), (pX, aI E 6 rx), (pY, aI E 6 ry), (a, hO h)] (fun v w => v = some (.int (zz ((neF (nxF np kd lf qt wd (h 5)) np nr rx ry m ([(0, plN np kd h)] : Qu) 0 (rfB rx ry nr ([(0, plN np kd h)] : Qu) 0) : Nat) : Int))) ∧ ∃ (fr2 : Nat) (Q2 : Qu) (f2 lin2 mts2 : Nat → Int), w = [(x, ob 6 [.ref s, .ref p, .ref z, .ref a, .ref b, .ref c, .ref f, .ref k, .ref q, .ref o]), (o, ob 1 [.ref p, .ref fl, .ref ln, .ref mt, .int (zz ↑fr2), .int (zz (↑(Q2.length)))]), (fl, hO f2), (ln, aI E 8000 lin2), (mt, aI E 250 mts2), (p, ob 2 [.ref pK, .ref pL, .ref pQ, .ref pW, .ref pX, .ref pY, .ref pS, .int (zz ↑np), .int (zz ↑nr)]), (pK, aI E 7 kd), (pL, aI E 7 lf), (pQ, aI E 7 qt), (pW, aI E 10 wd), (pX, aI E 6 rx), (pY, aI E 6 ry), (a, hO h)]) := by
    intro n
    induction n with
    | zero =>
      intro t fr1 acc Q1 f1 lin1 mts1 h1 h5 hq hfr h6 h4
      rw [neF] at h4
      refine rr_iload_n 3 dX6_near_32 rfl ?_
      refine rr_iload_n 1 dX6_near_33 rfl ?_
      refine rr_icmp_ge 60 dX6_near_34 (by decide) (by omega) (by omega) (fun c_1 => ?_) (fun c_1 => ?_)
      · skip
        refine rr_iload_n 2 dX6_near_60 rfl ?_
        exact rr_iret dX6_near_61 rfl rfl ⟨by rw [← h4], fr1, Q1, f1, lin1, mts1, rfl⟩
      · skip
        exfalso; omega
    | succ n ih =>
      intro t fr1 acc Q1 f1 lin1 mts1 h1 h5 hq hfr h6 h4
      rw [neF] at h4
      refine rr_iload_n 3 dX6_near_32 rfl ?_
      refine rr_iload_n 1 dX6_near_33 rfl ?_
      refine rr_icmp_ge 60 dX6_near_34 (by decide) (by omega) (by omega) (fun c_2 => ?_) (fun c_2 => ?_)
      · skip
        exfalso; omega
      · skip
        refine rr_aload_n 0 dX6_near_37 rfl ?_
        refine rr_get fX6_63 0 rfl rfl dX6_near_38 ?_
        refine rr_call (wr := [(x, ob 6 [.ref s, .ref p, .ref z, .ref a, .ref b, .ref c, .ref f, .ref k, .ref q, .ref o]), (pX, aI E 6 rx), (pY, aI E 6 ry), (a, hO h)]) (call_V (q0 := 0) kX6_197 (c_grow E (d + 0) p pK pL pQ pW pX pY pS np nr o fl ln mt fr1 Q1 kd lf qt wd f1 lin1 mts1 hp (by omega) hq hfr (fun e he => Nat.lt_of_lt_of_le (h6 e he) (show 8 ^ t ≤ 32768 from Nat.pow_le_pow_right (n := 8) (j := 5) (by omega) (by omega)))) rfl rfl rfl rfl (by omega) (by decide) (Nat.le_of_ble_eq_true rfl) (Nat.le_of_ble_eq_true rfl) dX6_near_41) [1, 2, 3, 4, 5, 6, 7, 8, 9] [0, 10, 11, 12] rfl rfl rfl rfl rfl (Nat.zero_le _) (Nat.zero_le _) (fun v w1 hp1 => ?_)
        obtain ⟨rfl, f4, lin4, mts4, h5g, hqg, rfl⟩ := hp1
        refine RR.eq (st2 := []) (ws2 := [(x, ob 6 [.ref s, .ref p, .ref z, .ref a, .ref b, .ref c, .ref f, .ref k, .ref q, .ref o]), (pX, aI E 6 rx), (pY, aI E 6 ry), (a, hO h), (o, ob 1 [.ref p, .ref fl, .ref ln, .ref mt, .int (zz (↑(Q1.length))), .int (zz (↑((grF (nxF np kd lf qt wd (f1 5)) np (Q1.length - fr1) fr1 Q1).length)))]), (fl, hO f4), (ln, aI E 8000 lin4), (mt, aI E 250 mts4), (p, ob 2 [.ref pK, .ref pL, .ref pQ, .ref pW, .ref pX, .ref pY, .ref pS, .int (zz ↑np), .int (zz ↑nr)]), (pK, aI E 7 kd), (pL, aI E 7 lf), (pQ, aI E 7 qt), (pW, aI E 10 wd)]) rfl rfl rfl rfl ?_
        refine rr_iload_n 2 dX6_near_44 rfl ?_
        refine rr_aload_n 0 dX6_near_45 rfl ?_
        refine rr_get fX6_63 0 rfl rfl dX6_near_46 ?_
        refine rr_call (wr := [(x, ob 6 [.ref s, .ref p, .ref z, .ref a, .ref b, .ref c, .ref f, .ref k, .ref q, .ref o]), (a, hO h), (mt, aI E 250 mts4), (pL, aI E 7 lf), (pQ, aI E 7 qt), (pW, aI E 10 wd)]) (call_V (q0 := 0) kX6_200 (c_roofsReached E (d + 2) p pK pL pQ pW pX pY pS np nr o fl ln mt (Q1.length) (grF (nxF np kd lf qt wd (f1 5)) np (Q1.length - fr1) fr1 Q1) kd lf qt wd rx ry f4 lin4 mts4 hp hr (by omega) hqg (grF_len _ _ _ _ _) (fun e he => Nat.lt_of_lt_of_le (grF_step (by omega) hfr h6 e he) (show 8 ^ (t + 1) ≤ 262144 from Nat.pow_le_pow_right (n := 8) (j := 6) (by omega) (by omega)))) rfl rfl rfl rfl (by omega) (by decide) (Nat.le_of_ble_eq_true rfl) (Nat.le_of_ble_eq_true rfl) dX6_near_49) [4, 5, 6, 8, 9, 1, 2] [0, 3, 7, 10, 11, 12] rfl rfl rfl rfl rfl (Nat.zero_le _) (Nat.zero_le _) (fun v w1 hp1 => ?_)
        obtain ⟨rfl, f5, hf5, rfl⟩ := hp1
        refine RR.eq (st2 := [.int (zz ((rfB rx ry nr (grF (nxF np kd lf qt wd (f1 5)) np (Q1.length - fr1) fr1 Q1) (Q1.length) : Nat) : Int)), .int (zz ↑acc)]) (ws2 := [(x, ob 6 [.ref s, .ref p, .ref z, .ref a, .ref b, .ref c, .ref f, .ref k, .ref q, .ref o]), (a, hO h), (mt, aI E 250 mts4), (pL, aI E 7 lf), (pQ, aI E 7 qt), (pW, aI E 10 wd), (o, ob 1 [.ref p, .ref fl, .ref ln, .ref mt, .int (zz (↑(Q1.length))), .int (zz (↑((grF (nxF np kd lf qt wd (f1 5)) np (Q1.length - fr1) fr1 Q1).length)))]), (fl, hO f5), (ln, aI E 8000 lin4), (p, ob 2 [.ref pK, .ref pL, .ref pQ, .ref pW, .ref pX, .ref pY, .ref pS, .int (zz ↑np), .int (zz ↑nr)]), (pK, aI E 7 kd), (pX, aI E 6 rx), (pY, aI E 6 ry)]) rfl rfl rfl rfl ?_
        refine rr_ior (a := acc) (b := rfB rx ry nr (grF (nxF np kd lf qt wd (f1 5)) np (Q1.length - fr1) fr1 Q1) Q1.length) dX6_near_52 ?_
        refine rr_istore_n (lv2 := [(0, .ref x), (1, .int (zz ↑m)), (2, .int (zz ((acc ||| rfB rx ry nr (grF (nxF np kd lf qt wd (f1 5)) np (Q1.length - fr1) fr1 Q1) Q1.length : Nat) : Int))), (3, .int (zz ↑t))]) dX6_near_53 (by decide) rfl ?_
        refine rr_iinc (lv2 := [(0, .ref x), (1, .int (zz ↑m)), (2, .int (zz ((acc ||| rfB rx ry nr (grF (nxF np kd lf qt wd (f1 5)) np (Q1.length - fr1) fr1 Q1) Q1.length : Nat) : Int))), (3, .int (zz (↑(t + 1))))]) 3 dX6_near_54 rfl (by decide) rfl ?_
        refine rr_goto 32 dX6_near_57 (by decide) ?_
        refine RR.ws (ws2 := [(x, ob 6 [.ref s, .ref p, .ref z, .ref a, .ref b, .ref c, .ref f, .ref k, .ref q, .ref o]), (o, ob 1 [.ref p, .ref fl, .ref ln, .ref mt, .int (zz (↑(Q1.length))), .int (zz (↑((grF (nxF np kd lf qt wd (f1 5)) np (Q1.length - fr1) fr1 Q1).length)))]), (fl, hO f5), (ln, aI E 8000 lin4), (mt, aI E 250 mts4), (p, ob 2 [.ref pK, .ref pL, .ref pQ, .ref pW, .ref pX, .ref pY, .ref pS, .int (zz ↑np), .int (zz ↑nr)]), (pK, aI E 7 kd), (pL, aI E 7 lf), (pQ, aI E 7 qt), (pW, aI E 10 wd), (pX, aI E 6 rx), (pY, aI E 6 ry), (a, hO h)]) [0, 6, 7, 8, 2, 9, 10, 3, 4, 5, 11, 12, 1] rfl rfl ?_
        exact ih (t + 1) Q1.length (acc ||| rfB rx ry nr (grF (nxF np kd lf qt wd (f1 5)) np (Q1.length - fr1) fr1 Q1) Q1.length) (grF (nxF np kd lf qt wd (f1 5)) np (Q1.length - fr1) fr1 Q1) f5 lin4 mts4 (by omega) (hf5.trans (h5g.trans h5)) hqg (grF_len _ _ _ _ _) (grF_step (by omega) hfr h6) (by rw [h5]; exact h4)
  refine rr_iload_n 1 dX6_near_0 rfl ?_
  refine rr_if_lt 9 dX6_near_1 (by decide) (by omega) (fun c_3 => ?_) (fun c_3 => ?_)
  · skip
    exfalso; omega
  · skip
    refine rr_iload_n 1 dX6_near_4 rfl ?_
    refine rr_iconst dX6_near_5 ?_
    refine rr_icmp_le 11 dX6_near_6 (by decide) (by omega) (by omega) (fun c_4 => ?_) (fun c_4 => ?_)
    · skip
      refine rr_aload_n 0 dX6_near_11 rfl ?_
      refine rr_get fX6_63 0 rfl rfl dX6_near_12 ?_
      refine rr_aload_n 0 dX6_near_15 rfl ?_
      refine rr_get fX6_29 0 rfl rfl dX6_near_16 ?_
      refine rr_call (wr := [(x, ob 6 [.ref s, .ref p, .ref z, .ref a, .ref b, .ref c, .ref f, .ref k, .ref q, .ref o]), (pL, aI E 7 lf), (pQ, aI E 7 qt), (pW, aI E 10 wd), (pX, aI E 6 rx), (pY, aI E 6 ry)]) (call_V (q0 := 0) kX6_186 (c_beginO E (d + 1) p pK pL pQ pW pX pY pS np nr o fl ln mt fr Q a kd lf qt wd f0 h lin0 mts0 hp ho) rfl rfl rfl rfl (by omega) (by decide) (Nat.le_of_ble_eq_true rfl) (Nat.le_of_ble_eq_true rfl) dX6_near_19) [1, 2, 3, 4, 5, 6, 12] [0, 7, 8, 9, 10, 11] rfl rfl rfl rfl rfl (Nat.zero_le _) (Nat.zero_le _) (fun v w1 hp1 => ?_)
      obtain ⟨rfl, lin9, mts9, hq0, rfl⟩ := hp1
      refine RR.eq (st2 := []) (ws2 := [(x, ob 6 [.ref s, .ref p, .ref z, .ref a, .ref b, .ref c, .ref f, .ref k, .ref q, .ref o]), (pL, aI E 7 lf), (pQ, aI E 7 qt), (pW, aI E 10 wd), (pX, aI E 6 rx), (pY, aI E 6 ry), (o, ob 1 [.ref p, .ref fl, .ref ln, .ref mt, .int (zz ↑0), .int (zz (↑(([(0, plN np kd h)] : Qu).length)))]), (fl, hO (updI f0 5 (h 5))), (ln, aI E 8000 lin9), (mt, aI E 250 mts9), (p, ob 2 [.ref pK, .ref pL, .ref pQ, .ref pW, .ref pX, .ref pY, .ref pS, .int (zz ↑np), .int (zz ↑nr)]), (pK, aI E 7 kd), (a, hO h)]) rfl rfl rfl rfl ?_
      refine rr_aload_n 0 dX6_near_22 rfl ?_
      refine rr_get fX6_63 0 rfl rfl dX6_near_23 ?_
      refine rr_call (wr := [(x, ob 6 [.ref s, .ref p, .ref z, .ref a, .ref b, .ref c, .ref f, .ref k, .ref q, .ref o]), (pL, aI E 7 lf), (pQ, aI E 7 qt), (pW, aI E 10 wd), (mt, aI E 250 mts9), (a, hO h)]) (call_V (q0 := 0) kX6_200 (c_roofsReached E (d + 2) p pK pL pQ pW pX pY pS np nr o fl ln mt 0 ([(0, plN np kd h)] : Qu) kd lf qt wd rx ry (updI f0 5 (h 5)) lin9 mts9 hp hr o5 hq0 (Nat.zero_le _) (fun e he => by rw [List.mem_singleton.mp he]; show 0 < 262144; omega)) rfl rfl rfl rfl (by omega) (by decide) (Nat.le_of_ble_eq_true rfl) (Nat.le_of_ble_eq_true rfl) dX6_near_26) [6, 7, 8, 10, 11, 4, 5] [0, 1, 2, 3, 9, 12] rfl rfl rfl rfl rfl (Nat.zero_le _) (Nat.zero_le _) (fun v w1 hp1 => ?_)
      obtain ⟨rfl, f8, hf8, rfl⟩ := hp1
      refine RR.eq (st2 := [.int (zz ((rfB rx ry nr ([(0, plN np kd h)] : Qu) 0 : Nat) : Int))]) (ws2 := [(x, ob 6 [.ref s, .ref p, .ref z, .ref a, .ref b, .ref c, .ref f, .ref k, .ref q, .ref o]), (pL, aI E 7 lf), (pQ, aI E 7 qt), (pW, aI E 10 wd), (mt, aI E 250 mts9), (a, hO h), (o, ob 1 [.ref p, .ref fl, .ref ln, .ref mt, .int (zz ↑0), .int (zz (↑(([(0, plN np kd h)] : Qu).length)))]), (fl, hO f8), (ln, aI E 8000 lin9), (p, ob 2 [.ref pK, .ref pL, .ref pQ, .ref pW, .ref pX, .ref pY, .ref pS, .int (zz ↑np), .int (zz ↑nr)]), (pK, aI E 7 kd), (pX, aI E 6 rx), (pY, aI E 6 ry)]) rfl rfl rfl rfl ?_
      refine rr_istore_n (lv2 := [(0, .ref x), (1, .int (zz ↑m)), (2, .int (zz ((rfB rx ry nr ([(0, plN np kd h)] : Qu) 0 : Nat) : Int)))]) dX6_near_29 (by decide) rfl ?_
      refine rr_iconst dX6_near_30 ?_
      refine rr_istore_n (lv2 := [(0, .ref x), (1, .int (zz ↑m)), (2, .int (zz ((rfB rx ry nr ([(0, plN np kd h)] : Qu) 0 : Nat) : Int))), (3, .int (zz 0))]) dX6_near_31 (by decide) rfl ?_
      refine RR.ws (ws2 := [(x, ob 6 [.ref s, .ref p, .ref z, .ref a, .ref b, .ref c, .ref f, .ref k, .ref q, .ref o]), (o, ob 1 [.ref p, .ref fl, .ref ln, .ref mt, .int (zz ↑0), .int (zz (↑(([(0, plN np kd h)] : Qu).length)))]), (fl, hO f8), (ln, aI E 8000 lin9), (mt, aI E 250 mts9), (p, ob 2 [.ref pK, .ref pL, .ref pQ, .ref pW, .ref pX, .ref pY, .ref pS, .int (zz ↑np), .int (zz ↑nr)]), (pK, aI E 7 kd), (pL, aI E 7 lf), (pQ, aI E 7 qt), (pW, aI E 10 wd), (pX, aI E 6 rx), (pY, aI E 6 ry), (a, hO h)]) [0, 6, 7, 8, 4, 9, 10, 1, 2, 3, 11, 12, 5] rfl rfl ?_
      exact lp m 0 0 (rfB rx ry nr ([(0, plN np kd h)] : Qu) 0) ([(0, plN np kd h)] : Qu) f8 lin9 mts9 (by omega) hf8 hq0 (Nat.zero_le _) (fun e he => by rw [List.mem_singleton.mp he]; exact Nat.zero_lt_one) rfl
    · skip
      exfalso; omega
