theorem safe_y1 {nr : Nat} {rx ry h H : Nat → Int} (h1 : ¬ h 2 = 0) (h2 : ¬ H 2 = 0) : (decide (¬ h 2 = 0) && !fallF nr rx ry H) = true := by unfold fallF; simp [h1, h2]
theorem safe_y2 {nr : Nat} {rx ry h H : Nat → Int} (h1 : ¬ h 2 = 0) (h2 : landF nr rx ry H = true) : (decide (¬ h 2 = 0) && !fallF nr rx ry H) = true := by rw [fall_land, h2]; simp [h1]
theorem safe_n1 {nr : Nat} {rx ry h H : Nat → Int} (h1 : h 2 = 0) : ¬ (decide (¬ h 2 = 0) && !fallF nr rx ry H) = true := by simp [h1]
theorem safe_n2 {nr : Nat} {rx ry h H : Nat → Int} (h1 : H 2 = 0) (h2 : landF nr rx ry H = false) : ¬ (decide (¬ h 2 = 0) && !fallF nr rx ry H) = true := by rw [fall_land, h2]; simp [h1]
set_option maxRecDepth 100000 in
set_option maxHeartbeats 400000 in
theorem c_Msafe (E : Ev) (d : Nat) (m mP mW mR mB mS mA mK mE mT mD nP nW nR nB mN mO mQ mX : Nat) (np nr ac ke se tl at_ rp rr : Nat) (dp : Int) (pg wn ro nw st kd lf qt wd rx ry h : Nat → Int) (hP : PL np kd lf qt wd pg wn) (hpc : pOK np kd lf qt wd) (hRo : RoL nr rx ry ro) (hrc : rOK nr rx ry) (hA : AG 7 st (amF h)) (ho : hOK h) (hv : hV np h) : SP E mX7_safe (d + 4) 0 0 [.ref m] [(m, ob 7 [.int (zz ↑np), .ref mP, .ref mW, .int (zz ↑nr), .ref mR, .ref mB, .ref mS, .int (zz ↑ac), .ref mA, .int (zz ↑ke), .ref mK, .int (zz ↑se), .ref mE, .ref mT, .int (zz ↑tl), .int (zz ↑at_), .ref mD, .int (zz ↑rp), .ref nP, .ref nW, .int (zz ↑rr), .ref nR, .ref nB, .ref mN, .ref mO, .ref mQ, .int (zz dp), .ref mX]), (mP, aI E 21 pg), (mW, aI E 10 wn), (mR, aI E 12 ro), (mN, aI E 7 nw), (mS, aI E 7 st)] (fun v w1 => v = some (.int (zz ((safeA np nr kd lf qt wd rx ry h : Nat) : Int))) ∧ ∃ g1 : Nat → Int, w1 = [(m, ob 7 [.int (zz ↑np), .ref mP, .ref mW, .int (zz ↑nr), .ref mR, .ref mB, .ref mS, .int (zz ↑ac), .ref mA, .int (zz ↑ke), .ref mK, .int (zz ↑se), .ref mE, .ref mT, .int (zz ↑tl), .int (zz ↑at_), .ref mD, .int (zz ↑rp), .ref nP, .ref nW, .int (zz ↑rr), .ref nR, .ref nB, .ref mN, .ref mO, .ref mQ, .int (zz dp), .ref mX]), (mP, aI E 21 pg), (mW, aI E 10 wn), (mR, aI E 12 ro), (mN, aI E 7 g1), (mS, aI E 7 st)]) := by
  show RR E mX7_safe (d + 4) 0 0 0 [(0, .ref m)] [] [(m, ob 7 [.int (zz ↑np), .ref mP, .ref mW, .int (zz ↑nr), .ref mR, .ref mB, .ref mS, .int (zz ↑ac), .ref mA, .int (zz ↑ke), .ref mK, .int (zz ↑se), .ref mE, .ref mT, .int (zz ↑tl), .int (zz ↑at_), .ref mD, .int (zz ↑rp), .ref nP, .ref nW, .int (zz ↑rr), .ref nR, .ref nB, .ref mN, .ref mO, .ref mQ, .int (zz dp), .ref mX]), (mP, aI E 21 pg), (mW, aI E 10 wn), (mR, aI E 12 ro), (mN, aI E 7 nw), (mS, aI E 7 st)] (fun v w1 => v = some (.int (zz ((safeA np nr kd lf qt wd rx ry h : Nat) : Int))) ∧ ∃ g1 : Nat → Int, w1 = [(m, ob 7 [.int (zz ↑np), .ref mP, .ref mW, .int (zz ↑nr), .ref mR, .ref mB, .ref mS, .int (zz ↑ac), .ref mA, .int (zz ↑ke), .ref mK, .int (zz ↑se), .ref mE, .ref mT, .int (zz ↑tl), .int (zz ↑at_), .ref mD, .int (zz ↑rp), .ref nP, .ref nW, .int (zz ↑rr), .ref nR, .ref nB, .ref mN, .ref mO, .ref mQ, .int (zz dp), .ref mX]), (mP, aI E 21 pg), (mW, aI E 10 wn), (mR, aI E 12 ro), (mN, aI E 7 g1), (mS, aI E 7 st)])
  have hp := hP.ok hpc
  have hr := hRo.ok hrc
  have hn := hpc.1
  have hr1 := hrc.1
  have hs := hA.ok ho hv
  obtain ⟨o0, o1, o2, o3, o5, o6⟩ := id ho
  obtain ⟨e0, e1, e2, e3, e4, e5, e6⟩ := hA.all
  have lp : ∀ (n i : Nat) (g1 : Nat → Int), i + n = np → RR E mX7_safe (d + 4) 0 0 4 [(0, .ref m), (1, .int (zz (↑(bitsTo (fun i => decide (¬ h 2 = 0) && !fallF nr rx ry (tnF np kd lf qt wd h i)) i)))), (2, .int (zz ↑i))] [] [(m, ob 7 [.int (zz ↑np), .ref mP, .ref mW, .int (zz ↑nr), .ref mR, .ref mB, .ref mS, .int (zz ↑ac), .ref mA, .int (zz ↑ke), .ref mK, .int (zz ↑se), .ref mE, .ref mT, .int (zz ↑tl), .int (zz ↑at_), .ref mD, .int (zz ↑rp), .ref nP, .ref nW, .int (zz ↑rr), .ref nR, .ref nB, .ref mN, .ref mO, .ref mQ, .int (zz dp), .ref mX]), (mP, aI E 21 pg), (mW, aI E 10 wn), (mR, aI E 12 ro), (mN, aI E 7 g1), (mS, aI E 7 st)] (fun v w1 => v = some (.int (zz ((safeA np nr kd lf qt wd rx ry h : Nat) : Int))) ∧ ∃ g1 : Nat → Int, w1 = [(m, ob 7 [.int (zz ↑np), .ref mP, .ref mW, .int (zz ↑nr), .ref mR, .ref mB, .ref mS, .int (zz ↑ac), .ref mA, .int (zz ↑ke), .ref mK, .int (zz ↑se), .ref mE, .ref mT, .int (zz ↑tl), .int (zz ↑at_), .ref mD, .int (zz ↑rp), .ref nP, .ref nW, .int (zz ↑rr), .ref nR, .ref nB, .ref mN, .ref mO, .ref mQ, .int (zz dp), .ref mX]), (mP, aI E 21 pg), (mW, aI E 10 wn), (mR, aI E 12 ro), (mN, aI E 7 g1), (mS, aI E 7 st)]) := by
    intro n
    induction n with
    | zero =>
      intro i g1 h1
      obtain rfl : i = np := by omega
      refine rr_iload_n 2 dX7_safe_4 rfl ?_
      refine rr_aload_n 0 dX7_safe_5 rfl ?_
      refine rr_get fX7_85 0 rfl rfl dX7_safe_6 ?_
      refine rr_icmp_ge 62 dX7_safe_9 (by decide) (by omega) (by omega) (fun c_1 => ?_) (fun c_1 => ?_)
      · skip
        refine rr_iload_n 1 dX7_safe_62 rfl ?_
        exact rr_iret dX7_safe_63 rfl rfl ⟨by rw [safeA_eq], g1, rfl⟩
      · skip
        exfalso; omega
    | succ n ih =>
      intro i g1 h1
      have hi : i < np := by omega
      refine rr_iload_n 2 dX7_safe_4 rfl ?_
      refine rr_aload_n 0 dX7_safe_5 rfl ?_
      refine rr_get fX7_85 0 rfl rfl dX7_safe_6 ?_
      refine rr_icmp_ge 62 dX7_safe_9 (by decide) (by omega) (by omega) (fun c_2 => ?_) (fun c_2 => ?_)
      · skip
        exfalso; omega
      · skip
        refine rr_aload_n 0 dX7_safe_12 rfl ?_
        refine rr_aload_n 0 dX7_safe_13 rfl ?_
        refine rr_get fX7_22 0 rfl rfl dX7_safe_14 ?_
        have ke_3 : cpI g1 0 st 0 7 0 = st 0 := rfl
        have ke_4 : cpI g1 0 st 0 7 1 = st 1 := rfl
        have ke_5 : cpI g1 0 st 0 7 2 = st 2 := rfl
        have ke_6 : cpI g1 0 st 0 7 3 = st 3 := rfl
        have ke_7 : cpI g1 0 st 0 7 4 = st 4 := rfl
        have ke_8 : cpI g1 0 st 0 7 5 = st 5 := rfl
        have ke_9 : cpI g1 0 st 0 7 6 = st 6 := rfl
        have hA10 : AG 7 (cpI g1 0 st 0 7) (amF h) := cp7 hA
        have ho10 : hOK h := ho
        have hv10 : hV np h := hv
        have hm10 : mOK np (cpI g1 0 st 0 7) := hA10.ok ho10 hv10
        obtain ⟨ea10, eb10, ec10, ed10, ee10, ef10, eg10⟩ := hA10.all
        obtain ⟨na10, nb10, nc10, nd10, nf10, ng10⟩ := id hm10
        refine rr_callFv (ws2 := [(m, ob 7 [.int (zz ↑np), .ref mP, .ref mW, .int (zz ↑nr), .ref mR, .ref mB, .ref mS, .int (zz ↑ac), .ref mA, .int (zz ↑ke), .ref mK, .int (zz ↑se), .ref mE, .ref mT, .int (zz ↑tl), .int (zz ↑at_), .ref mD, .int (zz ↑rp), .ref nP, .ref nW, .int (zz ↑rr), .ref nR, .ref nB, .ref mN, .ref mO, .ref mQ, .int (zz dp), .ref mX]), (mP, aI E 21 pg), (mW, aI E 10 wn), (mR, aI E 12 ro), (mN, aI E 7 (cpI g1 0 st 0 7)), (mS, aI E 7 st)]) (wr := [(mP, aI E 21 pg), (mW, aI E 10 wn), (mR, aI E 12 ro)]) (call_V (q0 := 0) kX7_180 (c_from E (d + 2) m mP mW mR mB mS mA mK mE mT mD nP nW nR nB mN mO mQ mX np nr ac ke se tl at_ rp rr dp mS g1 st) rfl rfl rfl rfl (by omega) (by decide) (Nat.le_of_ble_eq_true rfl) (Nat.le_of_ble_eq_true rfl) dX7_safe_17) [0, 4, 5] [1, 2, 3] [3, 0, 1, 2, 4, 5] rfl rfl rfl rfl rfl rfl rfl ?_
        refine rr_aload_n 0 dX7_safe_20 rfl ?_
        refine rr_callFi (ws2 := [(m, ob 7 [.int (zz ↑np), .ref mP, .ref mW, .int (zz ↑nr), .ref mR, .ref mB, .ref mS, .int (zz ↑ac), .ref mA, .int (zz ↑ke), .ref mK, .int (zz ↑se), .ref mE, .ref mT, .int (zz ↑tl), .int (zz ↑at_), .ref mD, .int (zz ↑rp), .ref nP, .ref nW, .int (zz ↑rr), .ref nR, .ref nB, .ref mN, .ref mO, .ref mQ, .int (zz dp), .ref mX]), (mP, aI E 21 pg), (mW, aI E 10 wn), (mR, aI E 12 ro), (mN, aI E 7 (cpI g1 0 st 0 7)), (mS, aI E 7 st)]) (wr := [(mP, aI E 21 pg), (mW, aI E 10 wn), (mR, aI E 12 ro), (mS, aI E 7 st)]) (call_V (q0 := 0) kX7_151 (c_MisDown E (d + 3) m mP mW mR mB mS mA mK mE mT mD nP nW nR nB mN mO mQ mX np nr ac ke se tl at_ rp rr dp (cpI g1 0 st 0 7) (by omega)) rfl rfl rfl rfl (by omega) (by decide) (Nat.le_of_ble_eq_true rfl) (Nat.le_of_ble_eq_true rfl) dX7_safe_21) [0, 4] [1, 2, 3, 5] [4, 0, 1, 2, 5, 3] rfl rfl rfl rfl rfl rfl rfl ?_
        refine rr_if_neD 56 dX7_safe_24 (by decide) (fun c_11 => ?_) (fun c_11 => ?_)
        · skip
          refine rr_iinc (lv2 := [(0, .ref m), (1, .int (zz (↑(bitsTo (fun i => decide (¬ h 2 = 0) && !fallF nr rx ry (tnF np kd lf qt wd h i)) i)))), (2, .int (zz (↑(i + 1))))]) 2 dX7_safe_56 rfl (by decide) rfl ?_
          refine rr_goto 4 dX7_safe_59 (by decide) ?_
          refine RR.eq (lv2 := [(0, .ref m), (1, .int (zz (↑(bitsTo (fun i => decide (¬ h 2 = 0) && !fallF nr rx ry (tnF np kd lf qt wd h i)) (i + 1))))), (2, .int (zz (↑(i + 1))))]) rfl (by rw [bitsTo, if_neg (by exact safe_n1 (by omega))]) rfl rfl ?_
          exact ih (i + 1) (cpI g1 0 st 0 7) (by omega)
        · skip
          refine rr_aload_n 0 dX7_safe_27 rfl ?_
          refine rr_iload_n 2 dX7_safe_28 rfl ?_
          have hA12 : AG 7 (tnM pg wn (cpI g1 0 st 0 7) i) (amF (tnF np kd lf qt wd h i)) := tn_rel hP hpc hv10 hA10 (by omega)
          have ho12 : hOK (tnF np kd lf qt wd h i) := tnF_ok hpc ho10 (by omega)
          have hv12 : hV np (tnF np kd lf qt wd h i) := tnF_hV (by omega)
          have hm12 : mOK np (tnM pg wn (cpI g1 0 st 0 7) i) := hA12.ok ho12 hv12
          obtain ⟨ea12, eb12, ec12, ed12, ee12, ef12, eg12⟩ := hA12.all
          obtain ⟨na12, nb12, nc12, nd12, nf12, ng12⟩ := id hm12
          refine rr_callFv (ws2 := [(m, ob 7 [.int (zz ↑np), .ref mP, .ref mW, .int (zz ↑nr), .ref mR, .ref mB, .ref mS, .int (zz ↑ac), .ref mA, .int (zz ↑ke), .ref mK, .int (zz ↑se), .ref mE, .ref mT, .int (zz ↑tl), .int (zz ↑at_), .ref mD, .int (zz ↑rp), .ref nP, .ref nW, .int (zz ↑rr), .ref nR, .ref nB, .ref mN, .ref mO, .ref mQ, .int (zz dp), .ref mX]), (mP, aI E 21 pg), (mW, aI E 10 wn), (mR, aI E 12 ro), (mN, aI E 7 (tnM pg wn (cpI g1 0 st 0 7) i)), (mS, aI E 7 st)]) (wr := [(mR, aI E 12 ro), (mS, aI E 7 st)]) (call_V (q0 := 0) kX7_190 (c_turns E (d + 0) m mP mW mR mB mS mA mK mE mT mD nP nW nR nB mN mO mQ mX np nr ac ke se tl at_ rp rr dp pg wn (cpI g1 0 st 0 7) i hp hm10 (by omega)) rfl rfl rfl rfl (by omega) (by decide) (Nat.le_of_ble_eq_true rfl) (Nat.le_of_ble_eq_true rfl) dX7_safe_29) [0, 1, 2, 4] [3, 5] [2, 3, 4, 0, 5, 1] rfl rfl rfl rfl rfl rfl rfl ?_
          refine rr_iload_n 1 dX7_safe_32 rfl ?_
          refine rr_aload_n 0 dX7_safe_33 rfl ?_
          refine rr_callFi (ws2 := [(m, ob 7 [.int (zz ↑np), .ref mP, .ref mW, .int (zz ↑nr), .ref mR, .ref mB, .ref mS, .int (zz ↑ac), .ref mA, .int (zz ↑ke), .ref mK, .int (zz ↑se), .ref mE, .ref mT, .int (zz ↑tl), .int (zz ↑at_), .ref mD, .int (zz ↑rp), .ref nP, .ref nW, .int (zz ↑rr), .ref nR, .ref nB, .ref mN, .ref mO, .ref mQ, .int (zz dp), .ref mX]), (mP, aI E 21 pg), (mW, aI E 10 wn), (mR, aI E 12 ro), (mN, aI E 7 (tnM pg wn (cpI g1 0 st 0 7) i)), (mS, aI E 7 st)]) (wr := [(mP, aI E 21 pg), (mW, aI E 10 wn), (mR, aI E 12 ro), (mS, aI E 7 st)]) (call_V (q0 := 0) kX7_151 (c_MisDown E (d + 3) m mP mW mR mB mS mA mK mE mT mD nP nW nR nB mN mO mQ mX np nr ac ke se tl at_ rp rr dp (tnM pg wn (cpI g1 0 st 0 7) i) (by omega)) rfl rfl rfl rfl (by omega) (by decide) (Nat.le_of_ble_eq_true rfl) (Nat.le_of_ble_eq_true rfl) dX7_safe_34) [0, 4] [1, 2, 3, 5] [4, 0, 1, 2, 5, 3] rfl rfl rfl rfl rfl rfl rfl ?_
          refine rr_if_eqD 47 dX7_safe_37 (by decide) (fun c_13 => ?_) (fun c_13 => ?_)
          · skip
            refine rr_iconst dX7_safe_47 ?_
            refine rr_iload_n 2 dX7_safe_48 rfl ?_
            refine rr_ishl (n := 1) (k := i) dX7_safe_49 (by omega) (by have := Nat.pow_le_pow_right (n := 2) (by omega) (show i ≤ 9 by omega); omega) ?_
            refine rr_top (b := ((2 ^ i : Nat) : Int)) (by rw [Nat.one_mul]) ?_
            refine rr_goto 54 dX7_safe_50 (by decide) ?_
            refine rr_ior (a := bitsTo (fun i => decide (¬ h 2 = 0) && !fallF nr rx ry (tnF np kd lf qt wd h i)) i) (b := 2 ^ i) dX7_safe_54 ?_
            refine rr_top (b := ↑(bitsTo (fun i => decide (¬ h 2 = 0) && !fallF nr rx ry (tnF np kd lf qt wd h i)) (i + 1))) (by rw [bitsTo, if_pos (by first | exact safe_y1 (by omega) (by omega) | exact safe_y2 (by omega) (hlz.symm.trans hq))]) ?_
            refine rr_istore_n (lv2 := [(0, .ref m), (1, .int (zz (↑(bitsTo (fun i => decide (¬ h 2 = 0) && !fallF nr rx ry (tnF np kd lf qt wd h i)) (i + 1))))), (2, .int (zz ↑i))]) dX7_safe_55 (by decide) rfl ?_
            refine rr_iinc (lv2 := [(0, .ref m), (1, .int (zz (↑(bitsTo (fun i => decide (¬ h 2 = 0) && !fallF nr rx ry (tnF np kd lf qt wd h i)) (i + 1))))), (2, .int (zz (↑(i + 1))))]) 2 dX7_safe_56 rfl (by decide) rfl ?_
            refine rr_goto 4 dX7_safe_59 (by decide) ?_
            exact ih (i + 1) (tnM pg wn (cpI g1 0 st 0 7) i) (by omega)
          · skip
            refine rr_aload_n 0 dX7_safe_40 rfl ?_
            have hlz : laM nr ro (tnM pg wn (cpI g1 0 st 0 7) i) = landF nr rx ry (tnF np kd lf qt wd h i) := la_rel hRo (AG.six hA12)
            refine rr_callFi (ws2 := [(m, ob 7 [.int (zz ↑np), .ref mP, .ref mW, .int (zz ↑nr), .ref mR, .ref mB, .ref mS, .int (zz ↑ac), .ref mA, .int (zz ↑ke), .ref mK, .int (zz ↑se), .ref mE, .ref mT, .int (zz ↑tl), .int (zz ↑at_), .ref mD, .int (zz ↑rp), .ref nP, .ref nW, .int (zz ↑rr), .ref nR, .ref nB, .ref mN, .ref mO, .ref mQ, .int (zz dp), .ref mX]), (mP, aI E 21 pg), (mW, aI E 10 wn), (mR, aI E 12 ro), (mN, aI E 7 (tnM pg wn (cpI g1 0 st 0 7) i)), (mS, aI E 7 st)]) (wr := [(mP, aI E 21 pg), (mW, aI E 10 wn), (mS, aI E 7 st)]) (call_V (q0 := 0) kX7_196 (c_MhasLanded E (d + 2) m mP mW mR mB mS mA mK mE mT mD nP nW nR nB mN mO mQ mX np nr ac ke se tl at_ rp rr dp ro (tnM pg wn (cpI g1 0 st 0 7) i) hr hm12) rfl rfl rfl rfl (by omega) (by decide) (Nat.le_of_ble_eq_true rfl) (Nat.le_of_ble_eq_true rfl) dX7_safe_41) [0, 3, 4] [1, 2, 5] [3, 0, 1, 4, 5, 2] rfl rfl rfl rfl rfl rfl rfl ?_
            refine rr_if_eqB 53 dX7_safe_44 (by decide) (fun hq => ?_) (fun hq => ?_)
            · skip
              refine rr_iconst dX7_safe_53 ?_
              refine rr_ior (a := bitsTo (fun i => decide (¬ h 2 = 0) && !fallF nr rx ry (tnF np kd lf qt wd h i)) i) (b := 0) dX7_safe_54 ?_
              refine rr_top (b := ↑(bitsTo (fun i => decide (¬ h 2 = 0) && !fallF nr rx ry (tnF np kd lf qt wd h i)) (i + 1))) (by rw [Nat.or_zero, bitsTo, if_neg (by exact safe_n2 (by omega) (hlz.symm.trans hq))]) ?_
              refine rr_istore_n (lv2 := [(0, .ref m), (1, .int (zz (↑(bitsTo (fun i => decide (¬ h 2 = 0) && !fallF nr rx ry (tnF np kd lf qt wd h i)) (i + 1))))), (2, .int (zz ↑i))]) dX7_safe_55 (by decide) rfl ?_
              refine rr_iinc (lv2 := [(0, .ref m), (1, .int (zz (↑(bitsTo (fun i => decide (¬ h 2 = 0) && !fallF nr rx ry (tnF np kd lf qt wd h i)) (i + 1))))), (2, .int (zz (↑(i + 1))))]) 2 dX7_safe_56 rfl (by decide) rfl ?_
              refine rr_goto 4 dX7_safe_59 (by decide) ?_
              exact ih (i + 1) (tnM pg wn (cpI g1 0 st 0 7) i) (by omega)
            · skip
              refine rr_iconst dX7_safe_47 ?_
              refine rr_iload_n 2 dX7_safe_48 rfl ?_
              refine rr_ishl (n := 1) (k := i) dX7_safe_49 (by omega) (by have := Nat.pow_le_pow_right (n := 2) (by omega) (show i ≤ 9 by omega); omega) ?_
              refine rr_top (b := ((2 ^ i : Nat) : Int)) (by rw [Nat.one_mul]) ?_
              refine rr_goto 54 dX7_safe_50 (by decide) ?_
              refine rr_ior (a := bitsTo (fun i => decide (¬ h 2 = 0) && !fallF nr rx ry (tnF np kd lf qt wd h i)) i) (b := 2 ^ i) dX7_safe_54 ?_
              refine rr_top (b := ↑(bitsTo (fun i => decide (¬ h 2 = 0) && !fallF nr rx ry (tnF np kd lf qt wd h i)) (i + 1))) (by rw [bitsTo, if_pos (by first | exact safe_y1 (by omega) (by omega) | exact safe_y2 (by omega) (hlz.symm.trans hq))]) ?_
              refine rr_istore_n (lv2 := [(0, .ref m), (1, .int (zz (↑(bitsTo (fun i => decide (¬ h 2 = 0) && !fallF nr rx ry (tnF np kd lf qt wd h i)) (i + 1))))), (2, .int (zz ↑i))]) dX7_safe_55 (by decide) rfl ?_
              refine rr_iinc (lv2 := [(0, .ref m), (1, .int (zz (↑(bitsTo (fun i => decide (¬ h 2 = 0) && !fallF nr rx ry (tnF np kd lf qt wd h i)) (i + 1))))), (2, .int (zz (↑(i + 1))))]) 2 dX7_safe_56 rfl (by decide) rfl ?_
              refine rr_goto 4 dX7_safe_59 (by decide) ?_
              exact ih (i + 1) (tnM pg wn (cpI g1 0 st 0 7) i) (by omega)
  refine rr_iconst dX7_safe_0 ?_
  refine rr_istore_n (lv2 := [(0, .ref m), (1, .int (zz 0))]) dX7_safe_1 (by decide) rfl ?_
  refine rr_iconst dX7_safe_2 ?_
  refine rr_istore_n (lv2 := [(0, .ref m), (1, .int (zz 0)), (2, .int (zz 0))]) dX7_safe_3 (by decide) rfl ?_
  exact lp np 0 nw (by omega)
set_option maxRecDepth 100000 in
set_option maxHeartbeats 400000 in
theorem c_Mundoes_y (E : Ev) (d : Nat) (m mP mW mR mB mS mA mK mE mT mD nP nW nR nB mN mO mQ mX : Nat) (np nr ac ke se tl at_ rp rr : Nat) (dp : Int) (pg wn ro nw st kd lf qt wd rx ry h : Nat → Int) (hP : PL np kd lf qt wd pg wn) (hpc : pOK np kd lf qt wd) (hRo : RoL nr rx ry ro) (hrc : rOK nr rx ry) (hA : AG 7 st (amF h)) (ho : hOK h) (hv : hV np h) (i0 : Nat) (hi0 : i0 < np) : SP E mX7_undoes (d + 4) 0 0 [.ref m, .int (zz ↑i0)] [(m, ob 7 [.int (zz ↑np), .ref mP, .ref mW, .int (zz ↑nr), .ref mR, .ref mB, .ref mS, .int (zz ↑ac), .ref mA, .int (zz ↑ke), .ref mK, .int (zz ↑se), .ref mE, .ref mT, .int (zz ↑tl), .int (zz ↑at_), .ref mD, .int (zz ↑rp), .ref nP, .ref nW, .int (zz ↑rr), .ref nR, .ref nB, .ref mN, .ref mO, .ref mQ, .int (zz dp), .ref mX]), (mP, aI E 21 pg), (mW, aI E 10 wn), (mN, aI E 7 nw), (mS, aI E 7 st)] (fun v w1 => v = some (.int (zz ((bitsTo (und1 np kd lf qt wd h i0) np : Nat) : Int))) ∧ ∃ g1 : Nat → Int, w1 = [(m, ob 7 [.int (zz ↑np), .ref mP, .ref mW, .int (zz ↑nr), .ref mR, .ref mB, .ref mS, .int (zz ↑ac), .ref mA, .int (zz ↑ke), .ref mK, .int (zz ↑se), .ref mE, .ref mT, .int (zz ↑tl), .int (zz ↑at_), .ref mD, .int (zz ↑rp), .ref nP, .ref nW, .int (zz ↑rr), .ref nR, .ref nB, .ref mN, .ref mO, .ref mQ, .int (zz dp), .ref mX]), (mP, aI E 21 pg), (mW, aI E 10 wn), (mN, aI E 7 g1), (mS, aI E 7 st)]) := by
  show RR E mX7_undoes (d + 4) 0 0 0 [(0, .ref m), (1, .int (zz ↑i0))] [] [(m, ob 7 [.int (zz ↑np), .ref mP, .ref mW, .int (zz ↑nr), .ref mR, .ref mB, .ref mS, .int (zz ↑ac), .ref mA, .int (zz ↑ke), .ref mK, .int (zz ↑se), .ref mE, .ref mT, .int (zz ↑tl), .int (zz ↑at_), .ref mD, .int (zz ↑rp), .ref nP, .ref nW, .int (zz ↑rr), .ref nR, .ref nB, .ref mN, .ref mO, .ref mQ, .int (zz dp), .ref mX]), (mP, aI E 21 pg), (mW, aI E 10 wn), (mN, aI E 7 nw), (mS, aI E 7 st)] (fun v w1 => v = some (.int (zz ((bitsTo (und1 np kd lf qt wd h i0) np : Nat) : Int))) ∧ ∃ g1 : Nat → Int, w1 = [(m, ob 7 [.int (zz ↑np), .ref mP, .ref mW, .int (zz ↑nr), .ref mR, .ref mB, .ref mS, .int (zz ↑ac), .ref mA, .int (zz ↑ke), .ref mK, .int (zz ↑se), .ref mE, .ref mT, .int (zz ↑tl), .int (zz ↑at_), .ref mD, .int (zz ↑rp), .ref nP, .ref nW, .int (zz ↑rr), .ref nR, .ref nB, .ref mN, .ref mO, .ref mQ, .int (zz dp), .ref mX]), (mP, aI E 21 pg), (mW, aI E 10 wn), (mN, aI E 7 g1), (mS, aI E 7 st)])
  have hp := hP.ok hpc
  have hr := hRo.ok hrc
  have hn := hpc.1
  have hr1 := hrc.1
  have hs := hA.ok ho hv
  obtain ⟨o0, o1, o2, o3, o5, o6⟩ := id ho
  obtain ⟨e0, e1, e2, e3, e4, e5, e6⟩ := hA.all
  have lp : ∀ (n i : Nat) (g1 : Nat → Int), i + n = np → RR E mX7_undoes (d + 4) 0 0 14 [(0, .ref m), (1, .int (zz ↑i0)), (2, .int (zz (↑(bitsTo (und1 np kd lf qt wd h i0) i)))), (3, .int (zz ↑i))] [] [(m, ob 7 [.int (zz ↑np), .ref mP, .ref mW, .int (zz ↑nr), .ref mR, .ref mB, .ref mS, .int (zz ↑ac), .ref mA, .int (zz ↑ke), .ref mK, .int (zz ↑se), .ref mE, .ref mT, .int (zz ↑tl), .int (zz ↑at_), .ref mD, .int (zz ↑rp), .ref nP, .ref nW, .int (zz ↑rr), .ref nR, .ref nB, .ref mN, .ref mO, .ref mQ, .int (zz dp), .ref mX]), (mP, aI E 21 pg), (mW, aI E 10 wn), (mN, aI E 7 g1), (mS, aI E 7 st)] (fun v w1 => v = some (.int (zz ((bitsTo (und1 np kd lf qt wd h i0) np : Nat) : Int))) ∧ ∃ g1 : Nat → Int, w1 = [(m, ob 7 [.int (zz ↑np), .ref mP, .ref mW, .int (zz ↑nr), .ref mR, .ref mB, .ref mS, .int (zz ↑ac), .ref mA, .int (zz ↑ke), .ref mK, .int (zz ↑se), .ref mE, .ref mT, .int (zz ↑tl), .int (zz ↑at_), .ref mD, .int (zz ↑rp), .ref nP, .ref nW, .int (zz ↑rr), .ref nR, .ref nB, .ref mN, .ref mO, .ref mQ, .int (zz dp), .ref mX]), (mP, aI E 21 pg), (mW, aI E 10 wn), (mN, aI E 7 g1), (mS, aI E 7 st)]) := by
    intro n
    induction n with
    | zero =>
      intro i g1 h1
      obtain rfl : i = np := by omega
      refine rr_iload_n 3 dX7_undoes_14 rfl ?_
      refine rr_aload_n 0 dX7_undoes_15 rfl ?_
      refine rr_get fX7_85 0 rfl rfl dX7_undoes_16 ?_
      refine rr_icmp_ge 124 dX7_undoes_19 (by decide) (by omega) (by omega) (fun c_1 => ?_) (fun c_1 => ?_)
      · skip
        refine rr_iload_n 2 dX7_undoes_124 rfl ?_
        exact rr_iret dX7_undoes_125 rfl rfl ⟨rfl, g1, rfl⟩
      · skip
        exfalso; omega
    | succ n ih =>
      intro i g1 h1
      have hi : i < np := by omega
      refine rr_iload_n 3 dX7_undoes_14 rfl ?_
      refine rr_aload_n 0 dX7_undoes_15 rfl ?_
      refine rr_get fX7_85 0 rfl rfl dX7_undoes_16 ?_
      refine rr_icmp_ge 124 dX7_undoes_19 (by decide) (by omega) (by omega) (fun c_2 => ?_) (fun c_2 => ?_)
      · skip
        exfalso; omega
      · skip
        refine rr_aload_n 0 dX7_undoes_22 rfl ?_
        refine rr_aload_n 0 dX7_undoes_23 rfl ?_
        refine rr_get fX7_22 0 rfl rfl dX7_undoes_24 ?_
        have ke_3 : cpI g1 0 st 0 7 0 = st 0 := rfl
        have ke_4 : cpI g1 0 st 0 7 1 = st 1 := rfl
        have ke_5 : cpI g1 0 st 0 7 2 = st 2 := rfl
        have ke_6 : cpI g1 0 st 0 7 3 = st 3 := rfl
        have ke_7 : cpI g1 0 st 0 7 4 = st 4 := rfl
        have ke_8 : cpI g1 0 st 0 7 5 = st 5 := rfl
        have ke_9 : cpI g1 0 st 0 7 6 = st 6 := rfl
        have hA10 : AG 7 (cpI g1 0 st 0 7) (amF h) := cp7 hA
        have ho10 : hOK h := ho
        have hv10 : hV np h := hv
        have hm10 : mOK np (cpI g1 0 st 0 7) := hA10.ok ho10 hv10
        obtain ⟨ea10, eb10, ec10, ed10, ee10, ef10, eg10⟩ := hA10.all
        obtain ⟨na10, nb10, nc10, nd10, nf10, ng10⟩ := id hm10
        refine rr_callFv (ws2 := [(m, ob 7 [.int (zz ↑np), .ref mP, .ref mW, .int (zz ↑nr), .ref mR, .ref mB, .ref mS, .int (zz ↑ac), .ref mA, .int (zz ↑ke), .ref mK, .int (zz ↑se), .ref mE, .ref mT, .int (zz ↑tl), .int (zz ↑at_), .ref mD, .int (zz ↑rp), .ref nP, .ref nW, .int (zz ↑rr), .ref nR, .ref nB, .ref mN, .ref mO, .ref mQ, .int (zz dp), .ref mX]), (mP, aI E 21 pg), (mW, aI E 10 wn), (mN, aI E 7 (cpI g1 0 st 0 7)), (mS, aI E 7 st)]) (wr := [(mP, aI E 21 pg), (mW, aI E 10 wn)]) (call_V (q0 := 0) kX7_180 (c_from E (d + 2) m mP mW mR mB mS mA mK mE mT mD nP nW nR nB mN mO mQ mX np nr ac ke se tl at_ rp rr dp mS g1 st) rfl rfl rfl rfl (by omega) (by decide) (Nat.le_of_ble_eq_true rfl) (Nat.le_of_ble_eq_true rfl) dX7_undoes_27) [0, 3, 4] [1, 2] [2, 0, 1, 3, 4] rfl rfl rfl rfl rfl rfl rfl ?_
        refine rr_aload_n 0 dX7_undoes_30 rfl ?_
        refine rr_callFi (ws2 := [(m, ob 7 [.int (zz ↑np), .ref mP, .ref mW, .int (zz ↑nr), .ref mR, .ref mB, .ref mS, .int (zz ↑ac), .ref mA, .int (zz ↑ke), .ref mK, .int (zz ↑se), .ref mE, .ref mT, .int (zz ↑tl), .int (zz ↑at_), .ref mD, .int (zz ↑rp), .ref nP, .ref nW, .int (zz ↑rr), .ref nR, .ref nB, .ref mN, .ref mO, .ref mQ, .int (zz dp), .ref mX]), (mP, aI E 21 pg), (mW, aI E 10 wn), (mN, aI E 7 (cpI g1 0 st 0 7)), (mS, aI E 7 st)]) (wr := [(mP, aI E 21 pg), (mW, aI E 10 wn), (mS, aI E 7 st)]) (call_V (q0 := 0) kX7_151 (c_MisDown E (d + 3) m mP mW mR mB mS mA mK mE mT mD nP nW nR nB mN mO mQ mX np nr ac ke se tl at_ rp rr dp (cpI g1 0 st 0 7) (by omega)) rfl rfl rfl rfl (by omega) (by decide) (Nat.le_of_ble_eq_true rfl) (Nat.le_of_ble_eq_true rfl) dX7_undoes_31) [0, 3] [1, 2, 4] [3, 0, 1, 4, 2] rfl rfl rfl rfl rfl rfl rfl ?_
        refine rr_if_neD 41 dX7_undoes_34 (by decide) (fun c_11 => ?_) (fun c_11 => ?_)
        · skip
          refine rr_iconst dX7_undoes_41 ?_
          refine rr_istore (lv2 := [(0, .ref m), (1, .int (zz ↑i0)), (2, .int (zz (↑(bitsTo (und1 np kd lf qt wd h i0) i)))), (3, .int (zz ↑i)), (4, .int (zz 0))]) dX7_undoes_42 (by decide) rfl ?_
          refine rr_iload 4 dX7_undoes_44 rfl ?_
          refine rr_if_eq 68 dX7_undoes_46 (by decide) (by omega) (fun c_12 => ?_) (fun c_12 => ?_)
          · skip
            refine rr_iload 4 dX7_undoes_68 rfl ?_
            refine rr_if_eq 118 dX7_undoes_70 (by decide) (by omega) (fun c_13 => ?_) (fun c_13 => ?_)
            · skip
              refine rr_iinc (lv2 := [(0, .ref m), (1, .int (zz ↑i0)), (2, .int (zz (↑(bitsTo (und1 np kd lf qt wd h i0) i)))), (3, .int (zz (↑(i + 1)))), (4, .int (zz 0))]) 3 dX7_undoes_118 rfl (by decide) rfl ?_
              refine rr_goto 14 dX7_undoes_121 (by decide) ?_
              refine RR.eq (lv2 := [(0, .ref m), (1, .int (zz ↑i0)), (2, .int (zz (↑(bitsTo (und1 np kd lf qt wd h i0) (i + 1))))), (3, .int (zz (↑(i + 1)))), (4, .int (zz 0))]) rfl (by rw [bitsTo, if_neg (by unfold und1; simp only [decide_eq_true_eq]; omega)]) rfl rfl ?_
              refine RR.lv [0, 1, 2, 3] rfl ?_
              exact ih (i + 1) (cpI g1 0 st 0 7) (by omega)
            · skip
              exfalso; omega
          · skip
            exfalso; omega
        · skip
          refine rr_iconst dX7_undoes_37 ?_
          refine rr_goto 42 dX7_undoes_38 (by decide) ?_
          refine rr_istore (lv2 := [(0, .ref m), (1, .int (zz ↑i0)), (2, .int (zz (↑(bitsTo (und1 np kd lf qt wd h i0) i)))), (3, .int (zz ↑i)), (4, .int (zz 1))]) dX7_undoes_42 (by decide) rfl ?_
          refine rr_iload 4 dX7_undoes_44 rfl ?_
          refine rr_if_eq 68 dX7_undoes_46 (by decide) (by omega) (fun c_14 => ?_) (fun c_14 => ?_)
          · skip
            exfalso; omega
          · skip
            refine rr_aload_n 0 dX7_undoes_49 rfl ?_
            refine rr_iload_n 1 dX7_undoes_50 rfl ?_
            have hA15 : AG 7 (tnM pg wn (cpI g1 0 st 0 7) i0) (amF (tnF np kd lf qt wd h i0)) := tn_rel hP hpc hv10 hA10 (by omega)
            have ho15 : hOK (tnF np kd lf qt wd h i0) := tnF_ok hpc ho10 (by omega)
            have hv15 : hV np (tnF np kd lf qt wd h i0) := tnF_hV (by omega)
            have hm15 : mOK np (tnM pg wn (cpI g1 0 st 0 7) i0) := hA15.ok ho15 hv15
            obtain ⟨ea15, eb15, ec15, ed15, ee15, ef15, eg15⟩ := hA15.all
            obtain ⟨na15, nb15, nc15, nd15, nf15, ng15⟩ := id hm15
            refine rr_callFv (ws2 := [(m, ob 7 [.int (zz ↑np), .ref mP, .ref mW, .int (zz ↑nr), .ref mR, .ref mB, .ref mS, .int (zz ↑ac), .ref mA, .int (zz ↑ke), .ref mK, .int (zz ↑se), .ref mE, .ref mT, .int (zz ↑tl), .int (zz ↑at_), .ref mD, .int (zz ↑rp), .ref nP, .ref nW, .int (zz ↑rr), .ref nR, .ref nB, .ref mN, .ref mO, .ref mQ, .int (zz dp), .ref mX]), (mP, aI E 21 pg), (mW, aI E 10 wn), (mN, aI E 7 (tnM pg wn (cpI g1 0 st 0 7) i0)), (mS, aI E 7 st)]) (wr := [(mS, aI E 7 st)]) (call_V (q0 := 0) kX7_190 (c_turns E (d + 0) m mP mW mR mB mS mA mK mE mT mD nP nW nR nB mN mO mQ mX np nr ac ke se tl at_ rp rr dp pg wn (cpI g1 0 st 0 7) i0 hp hm10 (by omega)) rfl rfl rfl rfl (by omega) (by decide) (Nat.le_of_ble_eq_true rfl) (Nat.le_of_ble_eq_true rfl) dX7_undoes_51) [0, 1, 2, 3] [4] [1, 2, 3, 4, 0] rfl rfl rfl rfl rfl rfl rfl ?_
            refine rr_aload_n 0 dX7_undoes_54 rfl ?_
            refine rr_callFi (ws2 := [(m, ob 7 [.int (zz ↑np), .ref mP, .ref mW, .int (zz ↑nr), .ref mR, .ref mB, .ref mS, .int (zz ↑ac), .ref mA, .int (zz ↑ke), .ref mK, .int (zz ↑se), .ref mE, .ref mT, .int (zz ↑tl), .int (zz ↑at_), .ref mD, .int (zz ↑rp), .ref nP, .ref nW, .int (zz ↑rr), .ref nR, .ref nB, .ref mN, .ref mO, .ref mQ, .int (zz dp), .ref mX]), (mP, aI E 21 pg), (mW, aI E 10 wn), (mN, aI E 7 (tnM pg wn (cpI g1 0 st 0 7) i0)), (mS, aI E 7 st)]) (wr := [(mP, aI E 21 pg), (mW, aI E 10 wn), (mS, aI E 7 st)]) (call_V (q0 := 0) kX7_151 (c_MisDown E (d + 3) m mP mW mR mB mS mA mK mE mT mD nP nW nR nB mN mO mQ mX np nr ac ke se tl at_ rp rr dp (tnM pg wn (cpI g1 0 st 0 7) i0) (by omega)) rfl rfl rfl rfl (by omega) (by decide) (Nat.le_of_ble_eq_true rfl) (Nat.le_of_ble_eq_true rfl) dX7_undoes_55) [0, 3] [1, 2, 4] [3, 0, 1, 4, 2] rfl rfl rfl rfl rfl rfl rfl ?_
            refine rr_if_neD 65 dX7_undoes_58 (by decide) (fun c_16 => ?_) (fun c_16 => ?_)
            · skip
              refine rr_iconst dX7_undoes_65 ?_
              refine rr_istore (lv2 := [(0, .ref m), (1, .int (zz ↑i0)), (2, .int (zz (↑(bitsTo (und1 np kd lf qt wd h i0) i)))), (3, .int (zz ↑i)), (4, .int (zz 0))]) dX7_undoes_66 (by decide) rfl ?_
              refine rr_iload 4 dX7_undoes_68 rfl ?_
              refine rr_if_eq 118 dX7_undoes_70 (by decide) (by omega) (fun c_17 => ?_) (fun c_17 => ?_)
              · skip
                refine rr_iinc (lv2 := [(0, .ref m), (1, .int (zz ↑i0)), (2, .int (zz (↑(bitsTo (und1 np kd lf qt wd h i0) i)))), (3, .int (zz (↑(i + 1)))), (4, .int (zz 0))]) 3 dX7_undoes_118 rfl (by decide) rfl ?_
                refine rr_goto 14 dX7_undoes_121 (by decide) ?_
                refine RR.eq (lv2 := [(0, .ref m), (1, .int (zz ↑i0)), (2, .int (zz (↑(bitsTo (und1 np kd lf qt wd h i0) (i + 1))))), (3, .int (zz (↑(i + 1)))), (4, .int (zz 0))]) rfl (by rw [bitsTo, if_neg (by unfold und1; simp only [decide_eq_true_eq]; omega)]) rfl rfl ?_
                refine RR.lv [0, 1, 2, 3] rfl ?_
                exact ih (i + 1) (tnM pg wn (cpI g1 0 st 0 7) i0) (by omega)
              · skip
                exfalso; omega
            · skip
              refine rr_iconst dX7_undoes_61 ?_
              refine rr_goto 66 dX7_undoes_62 (by decide) ?_
              refine rr_istore (lv2 := [(0, .ref m), (1, .int (zz ↑i0)), (2, .int (zz (↑(bitsTo (und1 np kd lf qt wd h i0) i)))), (3, .int (zz ↑i)), (4, .int (zz 1))]) dX7_undoes_66 (by decide) rfl ?_
              refine rr_iload 4 dX7_undoes_68 rfl ?_
              refine rr_if_eq 118 dX7_undoes_70 (by decide) (by omega) (fun c_18 => ?_) (fun c_18 => ?_)
              · skip
                exfalso; omega
              · skip
                refine rr_aload_n 0 dX7_undoes_73 rfl ?_
                refine rr_iload_n 3 dX7_undoes_74 rfl ?_
                have hA19 : AG 7 (tnM pg wn (tnM pg wn (cpI g1 0 st 0 7) i0) i) (amF (tnF np kd lf qt wd (tnF np kd lf qt wd h i0) i)) := tn_rel hP hpc hv15 hA15 (by omega)
                have ho19 : hOK (tnF np kd lf qt wd (tnF np kd lf qt wd h i0) i) := tnF_ok hpc ho15 (by omega)
                have hv19 : hV np (tnF np kd lf qt wd (tnF np kd lf qt wd h i0) i) := tnF_hV (by omega)
                have hm19 : mOK np (tnM pg wn (tnM pg wn (cpI g1 0 st 0 7) i0) i) := hA19.ok ho19 hv19
                obtain ⟨ea19, eb19, ec19, ed19, ee19, ef19, eg19⟩ := hA19.all
                obtain ⟨na19, nb19, nc19, nd19, nf19, ng19⟩ := id hm19
                refine rr_callFv (ws2 := [(m, ob 7 [.int (zz ↑np), .ref mP, .ref mW, .int (zz ↑nr), .ref mR, .ref mB, .ref mS, .int (zz ↑ac), .ref mA, .int (zz ↑ke), .ref mK, .int (zz ↑se), .ref mE, .ref mT, .int (zz ↑tl), .int (zz ↑at_), .ref mD, .int (zz ↑rp), .ref nP, .ref nW, .int (zz ↑rr), .ref nR, .ref nB, .ref mN, .ref mO, .ref mQ, .int (zz dp), .ref mX]), (mP, aI E 21 pg), (mW, aI E 10 wn), (mN, aI E 7 (tnM pg wn (tnM pg wn (cpI g1 0 st 0 7) i0) i)), (mS, aI E 7 st)]) (wr := [(mS, aI E 7 st)]) (call_V (q0 := 0) kX7_190 (c_turns E (d + 0) m mP mW mR mB mS mA mK mE mT mD nP nW nR nB mN mO mQ mX np nr ac ke se tl at_ rp rr dp pg wn (tnM pg wn (cpI g1 0 st 0 7) i0) i hp hm15 (by omega)) rfl rfl rfl rfl (by omega) (by decide) (Nat.le_of_ble_eq_true rfl) (Nat.le_of_ble_eq_true rfl) dX7_undoes_75) [0, 1, 2, 3] [4] [1, 2, 3, 4, 0] rfl rfl rfl rfl rfl rfl rfl ?_
                refine rr_iload_n 2 dX7_undoes_78 rfl ?_
                refine rr_aload_n 0 dX7_undoes_79 rfl ?_
                refine rr_get fX7_52 0 rfl rfl dX7_undoes_80 ?_
                refine rr_iconst dX7_undoes_83 ?_
                refine rr_iald 3 2 rfl rfl (by omega) (by omega) dX7_undoes_84 ?_
                refine rr_aload_n 0 dX7_undoes_85 rfl ?_
                refine rr_get fX7_22 0 rfl rfl dX7_undoes_86 ?_
                refine rr_iconst dX7_undoes_89 ?_
                refine rr_iald 4 2 rfl rfl (by omega) (by omega) dX7_undoes_90 ?_
                refine rr_icmp_ne 115 dX7_undoes_91 (by decide) (by omega) (by omega) (fun c_20 => ?_) (fun c_20 => ?_)
                · skip
                  refine rr_iconst dX7_undoes_115 ?_
                  refine rr_ior (a := bitsTo (und1 np kd lf qt wd h i0) i) (b := 0) dX7_undoes_116 ?_
                  refine rr_top (b := ↑(bitsTo (und1 np kd lf qt wd h i0) (i + 1))) (by rw [Nat.or_zero, bitsTo, if_neg (by unfold und1; simp only [decide_eq_true_eq]; omega)]) ?_
                  refine rr_istore_n (lv2 := [(0, .ref m), (1, .int (zz ↑i0)), (2, .int (zz (↑(bitsTo (und1 np kd lf qt wd h i0) (i + 1))))), (3, .int (zz ↑i)), (4, .int (zz 1))]) dX7_undoes_117 (by decide) rfl ?_
                  refine rr_iinc (lv2 := [(0, .ref m), (1, .int (zz ↑i0)), (2, .int (zz (↑(bitsTo (und1 np kd lf qt wd h i0) (i + 1))))), (3, .int (zz (↑(i + 1)))), (4, .int (zz 1))]) 3 dX7_undoes_118 rfl (by decide) rfl ?_
                  refine rr_goto 14 dX7_undoes_121 (by decide) ?_
                  refine RR.lv [0, 1, 2, 3] rfl ?_
                  exact ih (i + 1) (tnM pg wn (tnM pg wn (cpI g1 0 st 0 7) i0) i) (by omega)
                · skip
                  refine rr_aload_n 0 dX7_undoes_94 rfl ?_
                  refine rr_get fX7_52 0 rfl rfl dX7_undoes_95 ?_
                  refine rr_iconst dX7_undoes_98 ?_
                  refine rr_iald 3 3 rfl rfl (by omega) (by omega) dX7_undoes_99 ?_
                  refine rr_aload_n 0 dX7_undoes_100 rfl ?_
                  refine rr_get fX7_22 0 rfl rfl dX7_undoes_101 ?_
                  refine rr_iconst dX7_undoes_104 ?_
                  refine rr_iald 4 3 rfl rfl (by omega) (by omega) dX7_undoes_105 ?_
                  refine rr_icmp_ne 115 dX7_undoes_106 (by decide) (by omega) (by omega) (fun c_21 => ?_) (fun c_21 => ?_)
                  · skip
                    refine rr_iconst dX7_undoes_115 ?_
                    refine rr_ior (a := bitsTo (und1 np kd lf qt wd h i0) i) (b := 0) dX7_undoes_116 ?_
                    refine rr_top (b := ↑(bitsTo (und1 np kd lf qt wd h i0) (i + 1))) (by rw [Nat.or_zero, bitsTo, if_neg (by unfold und1; simp only [decide_eq_true_eq]; omega)]) ?_
                    refine rr_istore_n (lv2 := [(0, .ref m), (1, .int (zz ↑i0)), (2, .int (zz (↑(bitsTo (und1 np kd lf qt wd h i0) (i + 1))))), (3, .int (zz ↑i)), (4, .int (zz 1))]) dX7_undoes_117 (by decide) rfl ?_
                    refine rr_iinc (lv2 := [(0, .ref m), (1, .int (zz ↑i0)), (2, .int (zz (↑(bitsTo (und1 np kd lf qt wd h i0) (i + 1))))), (3, .int (zz (↑(i + 1)))), (4, .int (zz 1))]) 3 dX7_undoes_118 rfl (by decide) rfl ?_
                    refine rr_goto 14 dX7_undoes_121 (by decide) ?_
                    refine RR.lv [0, 1, 2, 3] rfl ?_
                    exact ih (i + 1) (tnM pg wn (tnM pg wn (cpI g1 0 st 0 7) i0) i) (by omega)
                  · skip
                    refine rr_iconst dX7_undoes_109 ?_
                    refine rr_iload_n 3 dX7_undoes_110 rfl ?_
                    refine rr_ishl (n := 1) (k := i) dX7_undoes_111 (by omega) (by have := Nat.pow_le_pow_right (n := 2) (by omega) (show i ≤ 9 by omega); omega) ?_
                    refine rr_top (b := ((2 ^ i : Nat) : Int)) (by rw [Nat.one_mul]) ?_
                    refine rr_goto 116 dX7_undoes_112 (by decide) ?_
                    refine rr_ior (a := bitsTo (und1 np kd lf qt wd h i0) i) (b := 2 ^ i) dX7_undoes_116 ?_
                    refine rr_top (b := ↑(bitsTo (und1 np kd lf qt wd h i0) (i + 1))) (by rw [bitsTo, if_pos (by unfold und1; simp only [decide_eq_true_eq]; omega)]) ?_
                    refine rr_istore_n (lv2 := [(0, .ref m), (1, .int (zz ↑i0)), (2, .int (zz (↑(bitsTo (und1 np kd lf qt wd h i0) (i + 1))))), (3, .int (zz ↑i)), (4, .int (zz 1))]) dX7_undoes_117 (by decide) rfl ?_
                    refine rr_iinc (lv2 := [(0, .ref m), (1, .int (zz ↑i0)), (2, .int (zz (↑(bitsTo (und1 np kd lf qt wd h i0) (i + 1))))), (3, .int (zz (↑(i + 1)))), (4, .int (zz 1))]) 3 dX7_undoes_118 rfl (by decide) rfl ?_
                    refine rr_goto 14 dX7_undoes_121 (by decide) ?_
                    refine RR.lv [0, 1, 2, 3] rfl ?_
                    exact ih (i + 1) (tnM pg wn (tnM pg wn (cpI g1 0 st 0 7) i0) i) (by omega)
  refine rr_aload_n 0 dX7_undoes_0 rfl ?_
  refine rr_iload_n 1 dX7_undoes_1 rfl ?_
  refine rr_callFi (ws2 := [(m, ob 7 [.int (zz ↑np), .ref mP, .ref mW, .int (zz ↑nr), .ref mR, .ref mB, .ref mS, .int (zz ↑ac), .ref mA, .int (zz ↑ke), .ref mK, .int (zz ↑se), .ref mE, .ref mT, .int (zz ↑tl), .int (zz ↑at_), .ref mD, .int (zz ↑rp), .ref nP, .ref nW, .int (zz ↑rr), .ref nR, .ref nB, .ref mN, .ref mO, .ref mQ, .int (zz dp), .ref mX]), (mP, aI E 21 pg), (mW, aI E 10 wn), (mN, aI E 7 nw), (mS, aI E 7 st)]) (wr := [(mP, aI E 21 pg), (mW, aI E 10 wn), (mN, aI E 7 nw), (mS, aI E 7 st)]) (call_V (q0 := 0) kX7_177 (c_MisPeg E (d + 2) m mP mW mR mB mS mA mK mE mT mD nP nW nR nB mN mO mQ mX np nr ac ke se tl at_ rp rr dp ↑i0 (by omega) (by omega)) rfl rfl rfl rfl (by omega) (by decide) (Nat.le_of_ble_eq_true rfl) (Nat.le_of_ble_eq_true rfl) dX7_undoes_2) [0] [1, 2, 3, 4] [4, 0, 1, 2, 3] rfl rfl rfl rfl rfl rfl rfl ?_
  refine rr_if_neD 10 dX7_undoes_5 (by decide) (fun c_22 => ?_) (fun c_22 => ?_)
  · skip
    refine rr_iconst dX7_undoes_10 ?_
    refine rr_istore_n (lv2 := [(0, .ref m), (1, .int (zz ↑i0)), (2, .int (zz 0))]) dX7_undoes_11 (by decide) rfl ?_
    refine rr_iconst dX7_undoes_12 ?_
    refine rr_istore_n (lv2 := [(0, .ref m), (1, .int (zz ↑i0)), (2, .int (zz 0)), (3, .int (zz 0))]) dX7_undoes_13 (by decide) rfl ?_
    exact lp np 0 nw (by omega)
  · skip
    exfalso; omega
set_option maxRecDepth 100000 in
set_option maxHeartbeats 400000 in
theorem c_Mundoes_bad (E : Ev) (d : Nat) (m mP mW mR mB mS mA mK mE mT mD nP nW nR nB mN mO mQ mX : Nat) (np nr ac ke se tl at_ rp rr : Nat) (dp : Int) (y : Int) (gy : -2147483648 ≤ y ∧ y < 2147483648) (hn : np ≤ 7) (hy : ¬ (0 ≤ y ∧ y < (np : Int))) : SP E mX7_undoes (d + 4) 0 0 [.ref m, .int (zz y)] [(m, ob 7 [.int (zz ↑np), .ref mP, .ref mW, .int (zz ↑nr), .ref mR, .ref mB, .ref mS, .int (zz ↑ac), .ref mA, .int (zz ↑ke), .ref mK, .int (zz ↑se), .ref mE, .ref mT, .int (zz ↑tl), .int (zz ↑at_), .ref mD, .int (zz ↑rp), .ref nP, .ref nW, .int (zz ↑rr), .ref nR, .ref nB, .ref mN, .ref mO, .ref mQ, .int (zz dp), .ref mX])] (FP (some (.int (zz (-1)))) [(m, ob 7 [.int (zz ↑np), .ref mP, .ref mW, .int (zz ↑nr), .ref mR, .ref mB, .ref mS, .int (zz ↑ac), .ref mA, .int (zz ↑ke), .ref mK, .int (zz ↑se), .ref mE, .ref mT, .int (zz ↑tl), .int (zz ↑at_), .ref mD, .int (zz ↑rp), .ref nP, .ref nW, .int (zz ↑rr), .ref nR, .ref nB, .ref mN, .ref mO, .ref mQ, .int (zz dp), .ref mX])]) := by
  show RR E mX7_undoes (d + 4) 0 0 0 [(0, .ref m), (1, .int (zz y))] [] [(m, ob 7 [.int (zz ↑np), .ref mP, .ref mW, .int (zz ↑nr), .ref mR, .ref mB, .ref mS, .int (zz ↑ac), .ref mA, .int (zz ↑ke), .ref mK, .int (zz ↑se), .ref mE, .ref mT, .int (zz ↑tl), .int (zz ↑at_), .ref mD, .int (zz ↑rp), .ref nP, .ref nW, .int (zz ↑rr), .ref nR, .ref nB, .ref mN, .ref mO, .ref mQ, .int (zz dp), .ref mX])] (FP (some (.int (zz (-1)))) [(m, ob 7 [.int (zz ↑np), .ref mP, .ref mW, .int (zz ↑nr), .ref mR, .ref mB, .ref mS, .int (zz ↑ac), .ref mA, .int (zz ↑ke), .ref mK, .int (zz ↑se), .ref mE, .ref mT, .int (zz ↑tl), .int (zz ↑at_), .ref mD, .int (zz ↑rp), .ref nP, .ref nW, .int (zz ↑rr), .ref nR, .ref nB, .ref mN, .ref mO, .ref mQ, .int (zz dp), .ref mX])])
  refine rr_aload_n 0 dX7_undoes_0 rfl ?_
  refine rr_iload_n 1 dX7_undoes_1 rfl ?_
  refine rr_callFi (ws2 := [(m, ob 7 [.int (zz ↑np), .ref mP, .ref mW, .int (zz ↑nr), .ref mR, .ref mB, .ref mS, .int (zz ↑ac), .ref mA, .int (zz ↑ke), .ref mK, .int (zz ↑se), .ref mE, .ref mT, .int (zz ↑tl), .int (zz ↑at_), .ref mD, .int (zz ↑rp), .ref nP, .ref nW, .int (zz ↑rr), .ref nR, .ref nB, .ref mN, .ref mO, .ref mQ, .int (zz dp), .ref mX])]) (wr := []) (call_V (q0 := 0) kX7_177 (c_MisPeg E (d + 2) m mP mW mR mB mS mA mK mE mT mD nP nW nR nB mN mO mQ mX np nr ac ke se tl at_ rp rr dp y (by omega) (by omega)) rfl rfl rfl rfl (by omega) (by decide) (Nat.le_of_ble_eq_true rfl) (Nat.le_of_ble_eq_true rfl) dX7_undoes_2) [0] [] [0] rfl rfl rfl rfl rfl rfl rfl ?_
  refine rr_if_neD 10 dX7_undoes_5 (by decide) (fun c_1 => ?_) (fun c_1 => ?_)
  · skip
    exfalso; omega
  · skip
    refine rr_iconst dX7_undoes_8 ?_
    exact rr_iret dX7_undoes_9 rfl rfl ⟨rfl, rfl⟩
set_option maxRecDepth 100000 in
set_option maxHeartbeats 400000 in
theorem c_Mboth_y (E : Ev) (d : Nat) (m mP mW mR mB mS mA mK mE mT mD nP nW nR nB mN mO mQ mX : Nat) (np nr ac ke se tl at_ rp rr : Nat) (dp : Int) (pg wn ro nw st kd lf qt wd rx ry h : Nat → Int) (hP : PL np kd lf qt wd pg wn) (hpc : pOK np kd lf qt wd) (hRo : RoL nr rx ry ro) (hrc : rOK nr rx ry) (hA : AG 7 st (amF h)) (ho : hOK h) (hv : hV np h) (i j : Nat) (hi : i < np) (hj : j < np) (hc : ¬ h 2 = 0 ∧ ¬ tnF np kd lf qt wd h i 2 = 0) : SP E mX7_turnsBoth (d + 4) 0 0 [.ref m, .int (zz ↑i), .int (zz ↑j)] [(m, ob 7 [.int (zz ↑np), .ref mP, .ref mW, .int (zz ↑nr), .ref mR, .ref mB, .ref mS, .int (zz ↑ac), .ref mA, .int (zz ↑ke), .ref mK, .int (zz ↑se), .ref mE, .ref mT, .int (zz ↑tl), .int (zz ↑at_), .ref mD, .int (zz ↑rp), .ref nP, .ref nW, .int (zz ↑rr), .ref nR, .ref nB, .ref mN, .ref mO, .ref mQ, .int (zz dp), .ref mX]), (mP, aI E 21 pg), (mW, aI E 10 wn), (mN, aI E 7 nw), (mS, aI E 7 st)] (FP (some (.int (zz 1))) [(m, ob 7 [.int (zz ↑np), .ref mP, .ref mW, .int (zz ↑nr), .ref mR, .ref mB, .ref mS, .int (zz ↑ac), .ref mA, .int (zz ↑ke), .ref mK, .int (zz ↑se), .ref mE, .ref mT, .int (zz ↑tl), .int (zz ↑at_), .ref mD, .int (zz ↑rp), .ref nP, .ref nW, .int (zz ↑rr), .ref nR, .ref nB, .ref mN, .ref mO, .ref mQ, .int (zz dp), .ref mX]), (mP, aI E 21 pg), (mW, aI E 10 wn), (mN, aI E 7 (tnM pg wn (tnM pg wn (cpI nw 0 st 0 7) i) j)), (mS, aI E 7 st)]) := by
  show RR E mX7_turnsBoth (d + 4) 0 0 0 [(0, .ref m), (1, .int (zz ↑i)), (2, .int (zz ↑j))] [] [(m, ob 7 [.int (zz ↑np), .ref mP, .ref mW, .int (zz ↑nr), .ref mR, .ref mB, .ref mS, .int (zz ↑ac), .ref mA, .int (zz ↑ke), .ref mK, .int (zz ↑se), .ref mE, .ref mT, .int (zz ↑tl), .int (zz ↑at_), .ref mD, .int (zz ↑rp), .ref nP, .ref nW, .int (zz ↑rr), .ref nR, .ref nB, .ref mN, .ref mO, .ref mQ, .int (zz dp), .ref mX]), (mP, aI E 21 pg), (mW, aI E 10 wn), (mN, aI E 7 nw), (mS, aI E 7 st)] (FP (some (.int (zz 1))) [(m, ob 7 [.int (zz ↑np), .ref mP, .ref mW, .int (zz ↑nr), .ref mR, .ref mB, .ref mS, .int (zz ↑ac), .ref mA, .int (zz ↑ke), .ref mK, .int (zz ↑se), .ref mE, .ref mT, .int (zz ↑tl), .int (zz ↑at_), .ref mD, .int (zz ↑rp), .ref nP, .ref nW, .int (zz ↑rr), .ref nR, .ref nB, .ref mN, .ref mO, .ref mQ, .int (zz dp), .ref mX]), (mP, aI E 21 pg), (mW, aI E 10 wn), (mN, aI E 7 (tnM pg wn (tnM pg wn (cpI nw 0 st 0 7) i) j)), (mS, aI E 7 st)])
  have hp := hP.ok hpc
  have hr := hRo.ok hrc
  have hn := hpc.1
  have hr1 := hrc.1
  have hs := hA.ok ho hv
  obtain ⟨o0, o1, o2, o3, o5, o6⟩ := id ho
  obtain ⟨e0, e1, e2, e3, e4, e5, e6⟩ := hA.all
  refine rr_aload_n 0 dX7_turnsBoth_0 rfl ?_
  refine rr_aload_n 0 dX7_turnsBoth_1 rfl ?_
  refine rr_get fX7_22 0 rfl rfl dX7_turnsBoth_2 ?_
  have ke_1 : cpI nw 0 st 0 7 0 = st 0 := rfl
  have ke_2 : cpI nw 0 st 0 7 1 = st 1 := rfl
  have ke_3 : cpI nw 0 st 0 7 2 = st 2 := rfl
  have ke_4 : cpI nw 0 st 0 7 3 = st 3 := rfl
  have ke_5 : cpI nw 0 st 0 7 4 = st 4 := rfl
  have ke_6 : cpI nw 0 st 0 7 5 = st 5 := rfl
  have ke_7 : cpI nw 0 st 0 7 6 = st 6 := rfl
  have hA8 : AG 7 (cpI nw 0 st 0 7) (amF h) := cp7 hA
  have ho8 : hOK h := ho
  have hv8 : hV np h := hv
  have hm8 : mOK np (cpI nw 0 st 0 7) := hA8.ok ho8 hv8
  obtain ⟨ea8, eb8, ec8, ed8, ee8, ef8, eg8⟩ := hA8.all
  obtain ⟨na8, nb8, nc8, nd8, nf8, ng8⟩ := id hm8
  refine rr_callFv (ws2 := [(m, ob 7 [.int (zz ↑np), .ref mP, .ref mW, .int (zz ↑nr), .ref mR, .ref mB, .ref mS, .int (zz ↑ac), .ref mA, .int (zz ↑ke), .ref mK, .int (zz ↑se), .ref mE, .ref mT, .int (zz ↑tl), .int (zz ↑at_), .ref mD, .int (zz ↑rp), .ref nP, .ref nW, .int (zz ↑rr), .ref nR, .ref nB, .ref mN, .ref mO, .ref mQ, .int (zz dp), .ref mX]), (mP, aI E 21 pg), (mW, aI E 10 wn), (mN, aI E 7 (cpI nw 0 st 0 7)), (mS, aI E 7 st)]) (wr := [(mP, aI E 21 pg), (mW, aI E 10 wn)]) (call_V (q0 := 0) kX7_180 (c_from E (d + 2) m mP mW mR mB mS mA mK mE mT mD nP nW nR nB mN mO mQ mX np nr ac ke se tl at_ rp rr dp mS nw st) rfl rfl rfl rfl (by omega) (by decide) (Nat.le_of_ble_eq_true rfl) (Nat.le_of_ble_eq_true rfl) dX7_turnsBoth_5) [0, 3, 4] [1, 2] [2, 0, 1, 3, 4] rfl rfl rfl rfl rfl rfl rfl ?_
  refine rr_aload_n 0 dX7_turnsBoth_8 rfl ?_
  refine rr_callFi (ws2 := [(m, ob 7 [.int (zz ↑np), .ref mP, .ref mW, .int (zz ↑nr), .ref mR, .ref mB, .ref mS, .int (zz ↑ac), .ref mA, .int (zz ↑ke), .ref mK, .int (zz ↑se), .ref mE, .ref mT, .int (zz ↑tl), .int (zz ↑at_), .ref mD, .int (zz ↑rp), .ref nP, .ref nW, .int (zz ↑rr), .ref nR, .ref nB, .ref mN, .ref mO, .ref mQ, .int (zz dp), .ref mX]), (mP, aI E 21 pg), (mW, aI E 10 wn), (mN, aI E 7 (cpI nw 0 st 0 7)), (mS, aI E 7 st)]) (wr := [(mP, aI E 21 pg), (mW, aI E 10 wn), (mS, aI E 7 st)]) (call_V (q0 := 0) kX7_151 (c_MisDown E (d + 3) m mP mW mR mB mS mA mK mE mT mD nP nW nR nB mN mO mQ mX np nr ac ke se tl at_ rp rr dp (cpI nw 0 st 0 7) (by omega)) rfl rfl rfl rfl (by omega) (by decide) (Nat.le_of_ble_eq_true rfl) (Nat.le_of_ble_eq_true rfl) dX7_turnsBoth_9) [0, 3] [1, 2, 4] [3, 0, 1, 4, 2] rfl rfl rfl rfl rfl rfl rfl ?_
  refine rr_if_eqD 17 dX7_turnsBoth_12 (by decide) (fun c_9 => ?_) (fun c_9 => ?_)
  · skip
    refine rr_aload_n 0 dX7_turnsBoth_17 rfl ?_
    refine rr_iload_n 1 dX7_turnsBoth_18 rfl ?_
    have hA10 : AG 7 (tnM pg wn (cpI nw 0 st 0 7) i) (amF (tnF np kd lf qt wd h i)) := tn_rel hP hpc hv8 hA8 (by omega)
    have ho10 : hOK (tnF np kd lf qt wd h i) := tnF_ok hpc ho8 (by omega)
    have hv10 : hV np (tnF np kd lf qt wd h i) := tnF_hV (by omega)
    have hm10 : mOK np (tnM pg wn (cpI nw 0 st 0 7) i) := hA10.ok ho10 hv10
    obtain ⟨ea10, eb10, ec10, ed10, ee10, ef10, eg10⟩ := hA10.all
    obtain ⟨na10, nb10, nc10, nd10, nf10, ng10⟩ := id hm10
    refine rr_callFv (ws2 := [(m, ob 7 [.int (zz ↑np), .ref mP, .ref mW, .int (zz ↑nr), .ref mR, .ref mB, .ref mS, .int (zz ↑ac), .ref mA, .int (zz ↑ke), .ref mK, .int (zz ↑se), .ref mE, .ref mT, .int (zz ↑tl), .int (zz ↑at_), .ref mD, .int (zz ↑rp), .ref nP, .ref nW, .int (zz ↑rr), .ref nR, .ref nB, .ref mN, .ref mO, .ref mQ, .int (zz dp), .ref mX]), (mP, aI E 21 pg), (mW, aI E 10 wn), (mN, aI E 7 (tnM pg wn (cpI nw 0 st 0 7) i)), (mS, aI E 7 st)]) (wr := [(mS, aI E 7 st)]) (call_V (q0 := 0) kX7_190 (c_turns E (d + 0) m mP mW mR mB mS mA mK mE mT mD nP nW nR nB mN mO mQ mX np nr ac ke se tl at_ rp rr dp pg wn (cpI nw 0 st 0 7) i hp hm8 (by omega)) rfl rfl rfl rfl (by omega) (by decide) (Nat.le_of_ble_eq_true rfl) (Nat.le_of_ble_eq_true rfl) dX7_turnsBoth_19) [0, 1, 2, 3] [4] [1, 2, 3, 4, 0] rfl rfl rfl rfl rfl rfl rfl ?_
    refine rr_aload_n 0 dX7_turnsBoth_22 rfl ?_
    refine rr_callFi (ws2 := [(m, ob 7 [.int (zz ↑np), .ref mP, .ref mW, .int (zz ↑nr), .ref mR, .ref mB, .ref mS, .int (zz ↑ac), .ref mA, .int (zz ↑ke), .ref mK, .int (zz ↑se), .ref mE, .ref mT, .int (zz ↑tl), .int (zz ↑at_), .ref mD, .int (zz ↑rp), .ref nP, .ref nW, .int (zz ↑rr), .ref nR, .ref nB, .ref mN, .ref mO, .ref mQ, .int (zz dp), .ref mX]), (mP, aI E 21 pg), (mW, aI E 10 wn), (mN, aI E 7 (tnM pg wn (cpI nw 0 st 0 7) i)), (mS, aI E 7 st)]) (wr := [(mP, aI E 21 pg), (mW, aI E 10 wn), (mS, aI E 7 st)]) (call_V (q0 := 0) kX7_151 (c_MisDown E (d + 3) m mP mW mR mB mS mA mK mE mT mD nP nW nR nB mN mO mQ mX np nr ac ke se tl at_ rp rr dp (tnM pg wn (cpI nw 0 st 0 7) i) (by omega)) rfl rfl rfl rfl (by omega) (by decide) (Nat.le_of_ble_eq_true rfl) (Nat.le_of_ble_eq_true rfl) dX7_turnsBoth_23) [0, 3] [1, 2, 4] [3, 0, 1, 4, 2] rfl rfl rfl rfl rfl rfl rfl ?_
    refine rr_if_eqD 31 dX7_turnsBoth_26 (by decide) (fun c_11 => ?_) (fun c_11 => ?_)
    · skip
      refine rr_aload_n 0 dX7_turnsBoth_31 rfl ?_
      refine rr_iload_n 2 dX7_turnsBoth_32 rfl ?_
      have hA12 : AG 7 (tnM pg wn (tnM pg wn (cpI nw 0 st 0 7) i) j) (amF (tnF np kd lf qt wd (tnF np kd lf qt wd h i) j)) := tn_rel hP hpc hv10 hA10 (by omega)
      have ho12 : hOK (tnF np kd lf qt wd (tnF np kd lf qt wd h i) j) := tnF_ok hpc ho10 (by omega)
      have hv12 : hV np (tnF np kd lf qt wd (tnF np kd lf qt wd h i) j) := tnF_hV (by omega)
      have hm12 : mOK np (tnM pg wn (tnM pg wn (cpI nw 0 st 0 7) i) j) := hA12.ok ho12 hv12
      obtain ⟨ea12, eb12, ec12, ed12, ee12, ef12, eg12⟩ := hA12.all
      obtain ⟨na12, nb12, nc12, nd12, nf12, ng12⟩ := id hm12
      refine rr_callFv (ws2 := [(m, ob 7 [.int (zz ↑np), .ref mP, .ref mW, .int (zz ↑nr), .ref mR, .ref mB, .ref mS, .int (zz ↑ac), .ref mA, .int (zz ↑ke), .ref mK, .int (zz ↑se), .ref mE, .ref mT, .int (zz ↑tl), .int (zz ↑at_), .ref mD, .int (zz ↑rp), .ref nP, .ref nW, .int (zz ↑rr), .ref nR, .ref nB, .ref mN, .ref mO, .ref mQ, .int (zz dp), .ref mX]), (mP, aI E 21 pg), (mW, aI E 10 wn), (mN, aI E 7 (tnM pg wn (tnM pg wn (cpI nw 0 st 0 7) i) j)), (mS, aI E 7 st)]) (wr := [(mS, aI E 7 st)]) (call_V (q0 := 0) kX7_190 (c_turns E (d + 0) m mP mW mR mB mS mA mK mE mT mD nP nW nR nB mN mO mQ mX np nr ac ke se tl at_ rp rr dp pg wn (tnM pg wn (cpI nw 0 st 0 7) i) j hp hm10 (by omega)) rfl rfl rfl rfl (by omega) (by decide) (Nat.le_of_ble_eq_true rfl) (Nat.le_of_ble_eq_true rfl) dX7_turnsBoth_33) [0, 1, 2, 3] [4] [1, 2, 3, 4, 0] rfl rfl rfl rfl rfl rfl rfl ?_
      refine rr_iconst dX7_turnsBoth_36 ?_
      exact rr_iret dX7_turnsBoth_37 rfl rfl ⟨rfl, rfl⟩
    · skip
      exfalso; omega
  · skip
    exfalso; omega
set_option maxRecDepth 100000 in
set_option maxHeartbeats 400000 in
theorem c_Mboth_n (E : Ev) (d : Nat) (m mP mW mR mB mS mA mK mE mT mD nP nW nR nB mN mO mQ mX : Nat) (np nr ac ke se tl at_ rp rr : Nat) (dp : Int) (pg wn ro nw st kd lf qt wd rx ry h : Nat → Int) (hP : PL np kd lf qt wd pg wn) (hpc : pOK np kd lf qt wd) (hRo : RoL nr rx ry ro) (hrc : rOK nr rx ry) (hA : AG 7 st (amF h)) (ho : hOK h) (hv : hV np h) (i j : Nat) (hi : i < np) (hj : j < np) (hc : ¬ (¬ h 2 = 0 ∧ ¬ tnF np kd lf qt wd h i 2 = 0)) : SP E mX7_turnsBoth (d + 4) 0 0 [.ref m, .int (zz ↑i), .int (zz ↑j)] [(m, ob 7 [.int (zz ↑np), .ref mP, .ref mW, .int (zz ↑nr), .ref mR, .ref mB, .ref mS, .int (zz ↑ac), .ref mA, .int (zz ↑ke), .ref mK, .int (zz ↑se), .ref mE, .ref mT, .int (zz ↑tl), .int (zz ↑at_), .ref mD, .int (zz ↑rp), .ref nP, .ref nW, .int (zz ↑rr), .ref nR, .ref nB, .ref mN, .ref mO, .ref mQ, .int (zz dp), .ref mX]), (mP, aI E 21 pg), (mW, aI E 10 wn), (mN, aI E 7 nw), (mS, aI E 7 st)] (fun v w1 => v = some (.int (zz 0)) ∧ ∃ nw2 : Nat → Int, w1 = [(m, ob 7 [.int (zz ↑np), .ref mP, .ref mW, .int (zz ↑nr), .ref mR, .ref mB, .ref mS, .int (zz ↑ac), .ref mA, .int (zz ↑ke), .ref mK, .int (zz ↑se), .ref mE, .ref mT, .int (zz ↑tl), .int (zz ↑at_), .ref mD, .int (zz ↑rp), .ref nP, .ref nW, .int (zz ↑rr), .ref nR, .ref nB, .ref mN, .ref mO, .ref mQ, .int (zz dp), .ref mX]), (mP, aI E 21 pg), (mW, aI E 10 wn), (mN, aI E 7 nw2), (mS, aI E 7 st)]) := by
  show RR E mX7_turnsBoth (d + 4) 0 0 0 [(0, .ref m), (1, .int (zz ↑i)), (2, .int (zz ↑j))] [] [(m, ob 7 [.int (zz ↑np), .ref mP, .ref mW, .int (zz ↑nr), .ref mR, .ref mB, .ref mS, .int (zz ↑ac), .ref mA, .int (zz ↑ke), .ref mK, .int (zz ↑se), .ref mE, .ref mT, .int (zz ↑tl), .int (zz ↑at_), .ref mD, .int (zz ↑rp), .ref nP, .ref nW, .int (zz ↑rr), .ref nR, .ref nB, .ref mN, .ref mO, .ref mQ, .int (zz dp), .ref mX]), (mP, aI E 21 pg), (mW, aI E 10 wn), (mN, aI E 7 nw), (mS, aI E 7 st)] (fun v w1 => v = some (.int (zz 0)) ∧ ∃ nw2 : Nat → Int, w1 = [(m, ob 7 [.int (zz ↑np), .ref mP, .ref mW, .int (zz ↑nr), .ref mR, .ref mB, .ref mS, .int (zz ↑ac), .ref mA, .int (zz ↑ke), .ref mK, .int (zz ↑se), .ref mE, .ref mT, .int (zz ↑tl), .int (zz ↑at_), .ref mD, .int (zz ↑rp), .ref nP, .ref nW, .int (zz ↑rr), .ref nR, .ref nB, .ref mN, .ref mO, .ref mQ, .int (zz dp), .ref mX]), (mP, aI E 21 pg), (mW, aI E 10 wn), (mN, aI E 7 nw2), (mS, aI E 7 st)])
  have hp := hP.ok hpc
  have hr := hRo.ok hrc
  have hn := hpc.1
  have hr1 := hrc.1
  have hs := hA.ok ho hv
  obtain ⟨o0, o1, o2, o3, o5, o6⟩ := id ho
  obtain ⟨e0, e1, e2, e3, e4, e5, e6⟩ := hA.all
  refine rr_aload_n 0 dX7_turnsBoth_0 rfl ?_
  refine rr_aload_n 0 dX7_turnsBoth_1 rfl ?_
  refine rr_get fX7_22 0 rfl rfl dX7_turnsBoth_2 ?_
  have ke_1 : cpI nw 0 st 0 7 0 = st 0 := rfl
  have ke_2 : cpI nw 0 st 0 7 1 = st 1 := rfl
  have ke_3 : cpI nw 0 st 0 7 2 = st 2 := rfl
  have ke_4 : cpI nw 0 st 0 7 3 = st 3 := rfl
  have ke_5 : cpI nw 0 st 0 7 4 = st 4 := rfl
  have ke_6 : cpI nw 0 st 0 7 5 = st 5 := rfl
  have ke_7 : cpI nw 0 st 0 7 6 = st 6 := rfl
  have hA8 : AG 7 (cpI nw 0 st 0 7) (amF h) := cp7 hA
  have ho8 : hOK h := ho
  have hv8 : hV np h := hv
  have hm8 : mOK np (cpI nw 0 st 0 7) := hA8.ok ho8 hv8
  obtain ⟨ea8, eb8, ec8, ed8, ee8, ef8, eg8⟩ := hA8.all
  obtain ⟨na8, nb8, nc8, nd8, nf8, ng8⟩ := id hm8
  refine rr_callFv (ws2 := [(m, ob 7 [.int (zz ↑np), .ref mP, .ref mW, .int (zz ↑nr), .ref mR, .ref mB, .ref mS, .int (zz ↑ac), .ref mA, .int (zz ↑ke), .ref mK, .int (zz ↑se), .ref mE, .ref mT, .int (zz ↑tl), .int (zz ↑at_), .ref mD, .int (zz ↑rp), .ref nP, .ref nW, .int (zz ↑rr), .ref nR, .ref nB, .ref mN, .ref mO, .ref mQ, .int (zz dp), .ref mX]), (mP, aI E 21 pg), (mW, aI E 10 wn), (mN, aI E 7 (cpI nw 0 st 0 7)), (mS, aI E 7 st)]) (wr := [(mP, aI E 21 pg), (mW, aI E 10 wn)]) (call_V (q0 := 0) kX7_180 (c_from E (d + 2) m mP mW mR mB mS mA mK mE mT mD nP nW nR nB mN mO mQ mX np nr ac ke se tl at_ rp rr dp mS nw st) rfl rfl rfl rfl (by omega) (by decide) (Nat.le_of_ble_eq_true rfl) (Nat.le_of_ble_eq_true rfl) dX7_turnsBoth_5) [0, 3, 4] [1, 2] [2, 0, 1, 3, 4] rfl rfl rfl rfl rfl rfl rfl ?_
  refine rr_aload_n 0 dX7_turnsBoth_8 rfl ?_
  refine rr_callFi (ws2 := [(m, ob 7 [.int (zz ↑np), .ref mP, .ref mW, .int (zz ↑nr), .ref mR, .ref mB, .ref mS, .int (zz ↑ac), .ref mA, .int (zz ↑ke), .ref mK, .int (zz ↑se), .ref mE, .ref mT, .int (zz ↑tl), .int (zz ↑at_), .ref mD, .int (zz ↑rp), .ref nP, .ref nW, .int (zz ↑rr), .ref nR, .ref nB, .ref mN, .ref mO, .ref mQ, .int (zz dp), .ref mX]), (mP, aI E 21 pg), (mW, aI E 10 wn), (mN, aI E 7 (cpI nw 0 st 0 7)), (mS, aI E 7 st)]) (wr := [(mP, aI E 21 pg), (mW, aI E 10 wn), (mS, aI E 7 st)]) (call_V (q0 := 0) kX7_151 (c_MisDown E (d + 3) m mP mW mR mB mS mA mK mE mT mD nP nW nR nB mN mO mQ mX np nr ac ke se tl at_ rp rr dp (cpI nw 0 st 0 7) (by omega)) rfl rfl rfl rfl (by omega) (by decide) (Nat.le_of_ble_eq_true rfl) (Nat.le_of_ble_eq_true rfl) dX7_turnsBoth_9) [0, 3] [1, 2, 4] [3, 0, 1, 4, 2] rfl rfl rfl rfl rfl rfl rfl ?_
  refine rr_if_eqD 17 dX7_turnsBoth_12 (by decide) (fun c_9 => ?_) (fun c_9 => ?_)
  · skip
    refine rr_aload_n 0 dX7_turnsBoth_17 rfl ?_
    refine rr_iload_n 1 dX7_turnsBoth_18 rfl ?_
    have hA10 : AG 7 (tnM pg wn (cpI nw 0 st 0 7) i) (amF (tnF np kd lf qt wd h i)) := tn_rel hP hpc hv8 hA8 (by omega)
    have ho10 : hOK (tnF np kd lf qt wd h i) := tnF_ok hpc ho8 (by omega)
    have hv10 : hV np (tnF np kd lf qt wd h i) := tnF_hV (by omega)
    have hm10 : mOK np (tnM pg wn (cpI nw 0 st 0 7) i) := hA10.ok ho10 hv10
    obtain ⟨ea10, eb10, ec10, ed10, ee10, ef10, eg10⟩ := hA10.all
    obtain ⟨na10, nb10, nc10, nd10, nf10, ng10⟩ := id hm10
    refine rr_callFv (ws2 := [(m, ob 7 [.int (zz ↑np), .ref mP, .ref mW, .int (zz ↑nr), .ref mR, .ref mB, .ref mS, .int (zz ↑ac), .ref mA, .int (zz ↑ke), .ref mK, .int (zz ↑se), .ref mE, .ref mT, .int (zz ↑tl), .int (zz ↑at_), .ref mD, .int (zz ↑rp), .ref nP, .ref nW, .int (zz ↑rr), .ref nR, .ref nB, .ref mN, .ref mO, .ref mQ, .int (zz dp), .ref mX]), (mP, aI E 21 pg), (mW, aI E 10 wn), (mN, aI E 7 (tnM pg wn (cpI nw 0 st 0 7) i)), (mS, aI E 7 st)]) (wr := [(mS, aI E 7 st)]) (call_V (q0 := 0) kX7_190 (c_turns E (d + 0) m mP mW mR mB mS mA mK mE mT mD nP nW nR nB mN mO mQ mX np nr ac ke se tl at_ rp rr dp pg wn (cpI nw 0 st 0 7) i hp hm8 (by omega)) rfl rfl rfl rfl (by omega) (by decide) (Nat.le_of_ble_eq_true rfl) (Nat.le_of_ble_eq_true rfl) dX7_turnsBoth_19) [0, 1, 2, 3] [4] [1, 2, 3, 4, 0] rfl rfl rfl rfl rfl rfl rfl ?_
    refine rr_aload_n 0 dX7_turnsBoth_22 rfl ?_
    refine rr_callFi (ws2 := [(m, ob 7 [.int (zz ↑np), .ref mP, .ref mW, .int (zz ↑nr), .ref mR, .ref mB, .ref mS, .int (zz ↑ac), .ref mA, .int (zz ↑ke), .ref mK, .int (zz ↑se), .ref mE, .ref mT, .int (zz ↑tl), .int (zz ↑at_), .ref mD, .int (zz ↑rp), .ref nP, .ref nW, .int (zz ↑rr), .ref nR, .ref nB, .ref mN, .ref mO, .ref mQ, .int (zz dp), .ref mX]), (mP, aI E 21 pg), (mW, aI E 10 wn), (mN, aI E 7 (tnM pg wn (cpI nw 0 st 0 7) i)), (mS, aI E 7 st)]) (wr := [(mP, aI E 21 pg), (mW, aI E 10 wn), (mS, aI E 7 st)]) (call_V (q0 := 0) kX7_151 (c_MisDown E (d + 3) m mP mW mR mB mS mA mK mE mT mD nP nW nR nB mN mO mQ mX np nr ac ke se tl at_ rp rr dp (tnM pg wn (cpI nw 0 st 0 7) i) (by omega)) rfl rfl rfl rfl (by omega) (by decide) (Nat.le_of_ble_eq_true rfl) (Nat.le_of_ble_eq_true rfl) dX7_turnsBoth_23) [0, 3] [1, 2, 4] [3, 0, 1, 4, 2] rfl rfl rfl rfl rfl rfl rfl ?_
    refine rr_if_eqD 31 dX7_turnsBoth_26 (by decide) (fun c_11 => ?_) (fun c_11 => ?_)
    · skip
      exfalso; omega
    · skip
      refine rr_iconst dX7_turnsBoth_29 ?_
      exact rr_iret dX7_turnsBoth_30 rfl rfl ⟨rfl, tnM pg wn (cpI nw 0 st 0 7) i, rfl⟩
  · skip
    refine rr_iconst dX7_turnsBoth_15 ?_
    exact rr_iret dX7_turnsBoth_16 rfl rfl ⟨rfl, cpI nw 0 st 0 7, rfl⟩
set_option maxRecDepth 100000 in
set_option maxHeartbeats 400000 in
theorem c_Meither_bad (E : Ev) (d : Nat) (m mP mW mR mB mS mA mK mE mT mD nP nW nR nB mN mO mQ mX : Nat) (np nr ac ke se tl at_ rp rr : Nat) (dp : Int) (y y2 : Int) (gy : -2147483648 ≤ y ∧ y < 2147483648) (gy2 : -2147483648 ≤ y2 ∧ y2 < 2147483648) (hn : np ≤ 7) (hy : ¬ ((0 ≤ y ∧ y < (np : Int)) ∧ 0 ≤ y2 ∧ y2 < (np : Int))) : SP E mX7_either (d + 5) 0 0 [.ref m, .int (zz y), .int (zz y2)] [(m, ob 7 [.int (zz ↑np), .ref mP, .ref mW, .int (zz ↑nr), .ref mR, .ref mB, .ref mS, .int (zz ↑ac), .ref mA, .int (zz ↑ke), .ref mK, .int (zz ↑se), .ref mE, .ref mT, .int (zz ↑tl), .int (zz ↑at_), .ref mD, .int (zz ↑rp), .ref nP, .ref nW, .int (zz ↑rr), .ref nR, .ref nB, .ref mN, .ref mO, .ref mQ, .int (zz dp), .ref mX])] (FP (some (.int (zz (-1)))) [(m, ob 7 [.int (zz ↑np), .ref mP, .ref mW, .int (zz ↑nr), .ref mR, .ref mB, .ref mS, .int (zz ↑ac), .ref mA, .int (zz ↑ke), .ref mK, .int (zz ↑se), .ref mE, .ref mT, .int (zz ↑tl), .int (zz ↑at_), .ref mD, .int (zz ↑rp), .ref nP, .ref nW, .int (zz ↑rr), .ref nR, .ref nB, .ref mN, .ref mO, .ref mQ, .int (zz dp), .ref mX])]) := by
  show RR E mX7_either (d + 5) 0 0 0 [(0, .ref m), (1, .int (zz y)), (2, .int (zz y2))] [] [(m, ob 7 [.int (zz ↑np), .ref mP, .ref mW, .int (zz ↑nr), .ref mR, .ref mB, .ref mS, .int (zz ↑ac), .ref mA, .int (zz ↑ke), .ref mK, .int (zz ↑se), .ref mE, .ref mT, .int (zz ↑tl), .int (zz ↑at_), .ref mD, .int (zz ↑rp), .ref nP, .ref nW, .int (zz ↑rr), .ref nR, .ref nB, .ref mN, .ref mO, .ref mQ, .int (zz dp), .ref mX])] (FP (some (.int (zz (-1)))) [(m, ob 7 [.int (zz ↑np), .ref mP, .ref mW, .int (zz ↑nr), .ref mR, .ref mB, .ref mS, .int (zz ↑ac), .ref mA, .int (zz ↑ke), .ref mK, .int (zz ↑se), .ref mE, .ref mT, .int (zz ↑tl), .int (zz ↑at_), .ref mD, .int (zz ↑rp), .ref nP, .ref nW, .int (zz ↑rr), .ref nR, .ref nB, .ref mN, .ref mO, .ref mQ, .int (zz dp), .ref mX])])
  refine rr_aload_n 0 dX7_either_0 rfl ?_
  refine rr_iload_n 1 dX7_either_1 rfl ?_
  refine rr_callFi (ws2 := [(m, ob 7 [.int (zz ↑np), .ref mP, .ref mW, .int (zz ↑nr), .ref mR, .ref mB, .ref mS, .int (zz ↑ac), .ref mA, .int (zz ↑ke), .ref mK, .int (zz ↑se), .ref mE, .ref mT, .int (zz ↑tl), .int (zz ↑at_), .ref mD, .int (zz ↑rp), .ref nP, .ref nW, .int (zz ↑rr), .ref nR, .ref nB, .ref mN, .ref mO, .ref mQ, .int (zz dp), .ref mX])]) (wr := []) (call_V (q0 := 0) kX7_177 (c_MisPeg E (d + 3) m mP mW mR mB mS mA mK mE mT mD nP nW nR nB mN mO mQ mX np nr ac ke se tl at_ rp rr dp y (by omega) (by omega)) rfl rfl rfl rfl (by omega) (by decide) (Nat.le_of_ble_eq_true rfl) (Nat.le_of_ble_eq_true rfl) dX7_either_2) [0] [] [0] rfl rfl rfl rfl rfl rfl rfl ?_
  refine rr_if_eqD 16 dX7_either_5 (by decide) (fun c_1 => ?_) (fun c_1 => ?_)
  · skip
    refine rr_iconst dX7_either_16 ?_
    exact rr_iret dX7_either_17 rfl rfl ⟨rfl, rfl⟩
  · skip
    refine rr_aload_n 0 dX7_either_8 rfl ?_
    refine rr_iload_n 2 dX7_either_9 rfl ?_
    refine rr_callFi (ws2 := [(m, ob 7 [.int (zz ↑np), .ref mP, .ref mW, .int (zz ↑nr), .ref mR, .ref mB, .ref mS, .int (zz ↑ac), .ref mA, .int (zz ↑ke), .ref mK, .int (zz ↑se), .ref mE, .ref mT, .int (zz ↑tl), .int (zz ↑at_), .ref mD, .int (zz ↑rp), .ref nP, .ref nW, .int (zz ↑rr), .ref nR, .ref nB, .ref mN, .ref mO, .ref mQ, .int (zz dp), .ref mX])]) (wr := []) (call_V (q0 := 0) kX7_177 (c_MisPeg E (d + 3) m mP mW mR mB mS mA mK mE mT mD nP nW nR nB mN mO mQ mX np nr ac ke se tl at_ rp rr dp y2 (by omega) (by omega)) rfl rfl rfl rfl (by omega) (by decide) (Nat.le_of_ble_eq_true rfl) (Nat.le_of_ble_eq_true rfl) dX7_either_10) [0] [] [0] rfl rfl rfl rfl rfl rfl rfl ?_
    refine rr_if_neD 18 dX7_either_13 (by decide) (fun c_2 => ?_) (fun c_2 => ?_)
    · skip
      exfalso; omega
    · skip
      refine rr_iconst dX7_either_16 ?_
      exact rr_iret dX7_either_17 rfl rfl ⟨rfl, rfl⟩
set_option maxRecDepth 100000 in
set_option maxHeartbeats 400000 in
theorem c_Meither_y (E : Ev) (d : Nat) (m mP mW mR mB mS mA mK mE mT mD nP nW nR nB mN mO mQ mX : Nat) (np nr ac ke se tl at_ rp rr : Nat) (dp : Int) (pg wn ro nw st kd lf qt wd rx ry h : Nat → Int) (hP : PL np kd lf qt wd pg wn) (hpc : pOK np kd lf qt wd) (hRo : RoL nr rx ry ro) (hrc : rOK nr rx ry) (hA : AG 7 st (amF h)) (ho : hOK h) (hv : hV np h) (ot : Nat → Int) (i j : Nat) (hi : i < np) (hj : j < np) : SP E mX7_either (d + 5) 0 0 [.ref m, .int (zz ↑i), .int (zz ↑j)] [(m, ob 7 [.int (zz ↑np), .ref mP, .ref mW, .int (zz ↑nr), .ref mR, .ref mB, .ref mS, .int (zz ↑ac), .ref mA, .int (zz ↑ke), .ref mK, .int (zz ↑se), .ref mE, .ref mT, .int (zz ↑tl), .int (zz ↑at_), .ref mD, .int (zz ↑rp), .ref nP, .ref nW, .int (zz ↑rr), .ref nR, .ref nB, .ref mN, .ref mO, .ref mQ, .int (zz dp), .ref mX]), (mP, aI E 21 pg), (mW, aI E 10 wn), (mN, aI E 7 nw), (mS, aI E 7 st), (mX, aI E 7 ot)] (fun v w1 => v = some (.int (zz (bI (eithA np kd lf qt wd h i j)))) ∧ ∃ g1 g2 : Nat → Int, w1 = [(m, ob 7 [.int (zz ↑np), .ref mP, .ref mW, .int (zz ↑nr), .ref mR, .ref mB, .ref mS, .int (zz ↑ac), .ref mA, .int (zz ↑ke), .ref mK, .int (zz ↑se), .ref mE, .ref mT, .int (zz ↑tl), .int (zz ↑at_), .ref mD, .int (zz ↑rp), .ref nP, .ref nW, .int (zz ↑rr), .ref nR, .ref nB, .ref mN, .ref mO, .ref mQ, .int (zz dp), .ref mX]), (mP, aI E 21 pg), (mW, aI E 10 wn), (mN, aI E 7 g1), (mS, aI E 7 st), (mX, aI E 7 g2)]) := by
  show RR E mX7_either (d + 5) 0 0 0 [(0, .ref m), (1, .int (zz ↑i)), (2, .int (zz ↑j))] [] [(m, ob 7 [.int (zz ↑np), .ref mP, .ref mW, .int (zz ↑nr), .ref mR, .ref mB, .ref mS, .int (zz ↑ac), .ref mA, .int (zz ↑ke), .ref mK, .int (zz ↑se), .ref mE, .ref mT, .int (zz ↑tl), .int (zz ↑at_), .ref mD, .int (zz ↑rp), .ref nP, .ref nW, .int (zz ↑rr), .ref nR, .ref nB, .ref mN, .ref mO, .ref mQ, .int (zz dp), .ref mX]), (mP, aI E 21 pg), (mW, aI E 10 wn), (mN, aI E 7 nw), (mS, aI E 7 st), (mX, aI E 7 ot)] (fun v w1 => v = some (.int (zz (bI (eithA np kd lf qt wd h i j)))) ∧ ∃ g1 g2 : Nat → Int, w1 = [(m, ob 7 [.int (zz ↑np), .ref mP, .ref mW, .int (zz ↑nr), .ref mR, .ref mB, .ref mS, .int (zz ↑ac), .ref mA, .int (zz ↑ke), .ref mK, .int (zz ↑se), .ref mE, .ref mT, .int (zz ↑tl), .int (zz ↑at_), .ref mD, .int (zz ↑rp), .ref nP, .ref nW, .int (zz ↑rr), .ref nR, .ref nB, .ref mN, .ref mO, .ref mQ, .int (zz dp), .ref mX]), (mP, aI E 21 pg), (mW, aI E 10 wn), (mN, aI E 7 g1), (mS, aI E 7 st), (mX, aI E 7 g2)])
  have hp := hP.ok hpc
  have hr := hRo.ok hrc
  have hn := hpc.1
  have hr1 := hrc.1
  have hs := hA.ok ho hv
  obtain ⟨o0, o1, o2, o3, o5, o6⟩ := id ho
  obtain ⟨e0, e1, e2, e3, e4, e5, e6⟩ := hA.all
  refine rr_aload_n 0 dX7_either_0 rfl ?_
  refine rr_iload_n 1 dX7_either_1 rfl ?_
  refine rr_callFi (ws2 := [(m, ob 7 [.int (zz ↑np), .ref mP, .ref mW, .int (zz ↑nr), .ref mR, .ref mB, .ref mS, .int (zz ↑ac), .ref mA, .int (zz ↑ke), .ref mK, .int (zz ↑se), .ref mE, .ref mT, .int (zz ↑tl), .int (zz ↑at_), .ref mD, .int (zz ↑rp), .ref nP, .ref nW, .int (zz ↑rr), .ref nR, .ref nB, .ref mN, .ref mO, .ref mQ, .int (zz dp), .ref mX]), (mP, aI E 21 pg), (mW, aI E 10 wn), (mN, aI E 7 nw), (mS, aI E 7 st), (mX, aI E 7 ot)]) (wr := [(mP, aI E 21 pg), (mW, aI E 10 wn), (mN, aI E 7 nw), (mS, aI E 7 st), (mX, aI E 7 ot)]) (call_V (q0 := 0) kX7_177 (c_MisPeg E (d + 3) m mP mW mR mB mS mA mK mE mT mD nP nW nR nB mN mO mQ mX np nr ac ke se tl at_ rp rr dp ↑i (by omega) (by omega)) rfl rfl rfl rfl (by omega) (by decide) (Nat.le_of_ble_eq_true rfl) (Nat.le_of_ble_eq_true rfl) dX7_either_2) [0] [1, 2, 3, 4, 5] [5, 0, 1, 2, 3, 4] rfl rfl rfl rfl rfl rfl rfl ?_
  refine rr_if_eqD 16 dX7_either_5 (by decide) (fun c_1 => ?_) (fun c_1 => ?_)
  · skip
    exfalso; omega
  · skip
    refine rr_aload_n 0 dX7_either_8 rfl ?_
    refine rr_iload_n 2 dX7_either_9 rfl ?_
    refine rr_callFi (ws2 := [(m, ob 7 [.int (zz ↑np), .ref mP, .ref mW, .int (zz ↑nr), .ref mR, .ref mB, .ref mS, .int (zz ↑ac), .ref mA, .int (zz ↑ke), .ref mK, .int (zz ↑se), .ref mE, .ref mT, .int (zz ↑tl), .int (zz ↑at_), .ref mD, .int (zz ↑rp), .ref nP, .ref nW, .int (zz ↑rr), .ref nR, .ref nB, .ref mN, .ref mO, .ref mQ, .int (zz dp), .ref mX]), (mP, aI E 21 pg), (mW, aI E 10 wn), (mN, aI E 7 nw), (mS, aI E 7 st), (mX, aI E 7 ot)]) (wr := [(mP, aI E 21 pg), (mW, aI E 10 wn), (mN, aI E 7 nw), (mS, aI E 7 st), (mX, aI E 7 ot)]) (call_V (q0 := 0) kX7_177 (c_MisPeg E (d + 3) m mP mW mR mB mS mA mK mE mT mD nP nW nR nB mN mO mQ mX np nr ac ke se tl at_ rp rr dp ↑j (by omega) (by omega)) rfl rfl rfl rfl (by omega) (by decide) (Nat.le_of_ble_eq_true rfl) (Nat.le_of_ble_eq_true rfl) dX7_either_10) [0] [1, 2, 3, 4, 5] [5, 0, 1, 2, 3, 4] rfl rfl rfl rfl rfl rfl rfl ?_
    refine rr_if_neD 18 dX7_either_13 (by decide) (fun c_2 => ?_) (fun c_2 => ?_)
    · skip
      refine rr_aload_n 0 dX7_either_18 rfl ?_
      refine rr_iload_n 1 dX7_either_19 rfl ?_
      refine rr_iload_n 2 dX7_either_20 rfl ?_
      by_cases hc : ¬ h 2 = 0 ∧ ¬ tnF np kd lf qt wd h i 2 = 0
      · skip
        have hA3 : AG 7 (tnM pg wn (tnM pg wn (cpI nw 0 st 0 7) i) j) (amF (tnF np kd lf qt wd (tnF np kd lf qt wd h i) j)) := tn_rel hP hpc (tnF_hV (by omega)) (tn_rel hP hpc hv (cp7 hA) (by omega)) (by omega)
        have ho3 : hOK (tnF np kd lf qt wd (tnF np kd lf qt wd h i) j) := tnF_ok hpc (tnF_ok hpc ho (by omega)) (by omega)
        have hv3 : hV np (tnF np kd lf qt wd (tnF np kd lf qt wd h i) j) := tnF_hV (by omega)
        have hm3 : mOK np (tnM pg wn (tnM pg wn (cpI nw 0 st 0 7) i) j) := hA3.ok ho3 hv3
        obtain ⟨ea3, eb3, ec3, ed3, ee3, ef3, eg3⟩ := hA3.all
        obtain ⟨na3, nb3, nc3, nd3, nf3, ng3⟩ := id hm3
        refine rr_callFi (ws2 := [(m, ob 7 [.int (zz ↑np), .ref mP, .ref mW, .int (zz ↑nr), .ref mR, .ref mB, .ref mS, .int (zz ↑ac), .ref mA, .int (zz ↑ke), .ref mK, .int (zz ↑se), .ref mE, .ref mT, .int (zz ↑tl), .int (zz ↑at_), .ref mD, .int (zz ↑rp), .ref nP, .ref nW, .int (zz ↑rr), .ref nR, .ref nB, .ref mN, .ref mO, .ref mQ, .int (zz dp), .ref mX]), (mP, aI E 21 pg), (mW, aI E 10 wn), (mN, aI E 7 (tnM pg wn (tnM pg wn (cpI nw 0 st 0 7) i) j)), (mS, aI E 7 st), (mX, aI E 7 ot)]) (wr := [(mX, aI E 7 ot)]) (call_V (q0 := 0) kX7_215 (c_Mboth_y E (d + 0) m mP mW mR mB mS mA mK mE mT mD nP nW nR nB mN mO mQ mX np nr ac ke se tl at_ rp rr dp pg wn ro nw st kd lf qt wd rx ry h hP hpc hRo hrc hA ho hv i j (by omega) (by omega) hc) rfl rfl rfl rfl (by omega) (by decide) (Nat.le_of_ble_eq_true rfl) (Nat.le_of_ble_eq_true rfl) dX7_either_21) [0, 1, 2, 3, 4] [5] [1, 2, 3, 4, 5, 0] rfl rfl rfl rfl rfl rfl rfl ?_
        refine rr_if_ne 29 dX7_either_24 (by decide) (by omega) (fun c_4 => ?_) (fun c_4 => ?_)
        · skip
          refine rr_aload_n 0 dX7_either_29 rfl ?_
          refine rr_get fX7_61 0 rfl rfl dX7_either_30 ?_
          refine rr_iconst dX7_either_33 ?_
          refine rr_aload_n 0 dX7_either_34 rfl ?_
          refine rr_get fX7_52 0 rfl rfl dX7_either_35 ?_
          refine rr_iconst dX7_either_38 ?_
          refine rr_bipush dX7_either_39 (by decide) ?_
          have ko0 : cpI ot 0 (tnM pg wn (tnM pg wn (cpI nw 0 st 0 7) i) j) 0 7 0 = tnM pg wn (tnM pg wn (cpI nw 0 st 0 7) i) j 0 := rfl
          have ko1 : cpI ot 0 (tnM pg wn (tnM pg wn (cpI nw 0 st 0 7) i) j) 0 7 1 = tnM pg wn (tnM pg wn (cpI nw 0 st 0 7) i) j 1 := rfl
          have ko2 : cpI ot 0 (tnM pg wn (tnM pg wn (cpI nw 0 st 0 7) i) j) 0 7 2 = tnM pg wn (tnM pg wn (cpI nw 0 st 0 7) i) j 2 := rfl
          have ko3 : cpI ot 0 (tnM pg wn (tnM pg wn (cpI nw 0 st 0 7) i) j) 0 7 3 = tnM pg wn (tnM pg wn (cpI nw 0 st 0 7) i) j 3 := rfl
          refine rr_callFv (ws2 := [(m, ob 7 [.int (zz ↑np), .ref mP, .ref mW, .int (zz ↑nr), .ref mR, .ref mB, .ref mS, .int (zz ↑ac), .ref mA, .int (zz ↑ke), .ref mK, .int (zz ↑se), .ref mE, .ref mT, .int (zz ↑tl), .int (zz ↑at_), .ref mD, .int (zz ↑rp), .ref nP, .ref nW, .int (zz ↑rr), .ref nR, .ref nB, .ref mN, .ref mO, .ref mQ, .int (zz dp), .ref mX]), (mP, aI E 21 pg), (mW, aI E 10 wn), (mN, aI E 7 (tnM pg wn (tnM pg wn (cpI nw 0 st 0 7) i) j)), (mS, aI E 7 st), (mX, aI E 7 (cpI ot 0 (tnM pg wn (tnM pg wn (cpI nw 0 st 0 7) i) j) 0 7))]) (wr := [(m, ob 7 [.int (zz ↑np), .ref mP, .ref mW, .int (zz ↑nr), .ref mR, .ref mB, .ref mS, .int (zz ↑ac), .ref mA, .int (zz ↑ke), .ref mK, .int (zz ↑se), .ref mE, .ref mT, .int (zz ↑tl), .int (zz ↑at_), .ref mD, .int (zz ↑rp), .ref nP, .ref nW, .int (zz ↑rr), .ref nR, .ref nB, .ref mN, .ref mO, .ref mQ, .int (zz dp), .ref mX]), (mP, aI E 21 pg), (mW, aI E 10 wn), (mS, aI E 7 st)]) (call_S kX7_138 (c_copies E (d + 4) mX mN 7 7 0 0 7 ot (tnM pg wn (tnM pg wn (cpI nw 0 st 0 7) i) j) (by omega) (by omega) (by omega) (by omega)) rfl (by omega) (by decide) (Nat.le_of_ble_eq_true rfl) (Nat.le_of_ble_eq_true rfl) dX7_either_41) [5, 3] [0, 1, 2, 4] [0, 1, 2, 5, 3, 4] rfl rfl rfl rfl rfl rfl rfl ?_
          refine rr_aload_n 0 dX7_either_44 rfl ?_
          refine rr_iload_n 2 dX7_either_45 rfl ?_
          refine rr_iload_n 1 dX7_either_46 rfl ?_
          by_cases hk : ¬ h 2 = 0 ∧ ¬ tnF np kd lf qt wd h j 2 = 0
          · skip
            have hA5 : AG 7 (tnM pg wn (tnM pg wn (cpI (tnM pg wn (tnM pg wn (cpI nw 0 st 0 7) i) j) 0 st 0 7) j) i) (amF (tnF np kd lf qt wd (tnF np kd lf qt wd h j) i)) := tn_rel hP hpc (tnF_hV (by omega)) (tn_rel hP hpc hv (cp7 hA) (by omega)) (by omega)
            have ho5 : hOK (tnF np kd lf qt wd (tnF np kd lf qt wd h j) i) := tnF_ok hpc (tnF_ok hpc ho (by omega)) (by omega)
            have hv5 : hV np (tnF np kd lf qt wd (tnF np kd lf qt wd h j) i) := tnF_hV (by omega)
            have hm5 : mOK np (tnM pg wn (tnM pg wn (cpI (tnM pg wn (tnM pg wn (cpI nw 0 st 0 7) i) j) 0 st 0 7) j) i) := hA5.ok ho5 hv5
            obtain ⟨ea5, eb5, ec5, ed5, ee5, ef5, eg5⟩ := hA5.all
            obtain ⟨na5, nb5, nc5, nd5, nf5, ng5⟩ := id hm5
            refine rr_callFi (ws2 := [(m, ob 7 [.int (zz ↑np), .ref mP, .ref mW, .int (zz ↑nr), .ref mR, .ref mB, .ref mS, .int (zz ↑ac), .ref mA, .int (zz ↑ke), .ref mK, .int (zz ↑se), .ref mE, .ref mT, .int (zz ↑tl), .int (zz ↑at_), .ref mD, .int (zz ↑rp), .ref nP, .ref nW, .int (zz ↑rr), .ref nR, .ref nB, .ref mN, .ref mO, .ref mQ, .int (zz dp), .ref mX]), (mP, aI E 21 pg), (mW, aI E 10 wn), (mN, aI E 7 (tnM pg wn (tnM pg wn (cpI (tnM pg wn (tnM pg wn (cpI nw 0 st 0 7) i) j) 0 st 0 7) j) i)), (mS, aI E 7 st), (mX, aI E 7 (cpI ot 0 (tnM pg wn (tnM pg wn (cpI nw 0 st 0 7) i) j) 0 7))]) (wr := [(mX, aI E 7 (cpI ot 0 (tnM pg wn (tnM pg wn (cpI nw 0 st 0 7) i) j) 0 7))]) (call_V (q0 := 0) kX7_215 (c_Mboth_y E (d + 0) m mP mW mR mB mS mA mK mE mT mD nP nW nR nB mN mO mQ mX np nr ac ke se tl at_ rp rr dp pg wn ro (tnM pg wn (tnM pg wn (cpI nw 0 st 0 7) i) j) st kd lf qt wd rx ry h hP hpc hRo hrc hA ho hv j i (by omega) (by omega) hk) rfl rfl rfl rfl (by omega) (by decide) (Nat.le_of_ble_eq_true rfl) (Nat.le_of_ble_eq_true rfl) dX7_either_47) [0, 1, 2, 3, 4] [5] [1, 2, 3, 4, 5, 0] rfl rfl rfl rfl rfl rfl rfl ?_
            refine rr_if_ne 55 dX7_either_50 (by decide) (by omega) (fun c_6 => ?_) (fun c_6 => ?_)
            · skip
              refine rr_iconst dX7_either_55 ?_
              refine rr_istore_n (lv2 := [(0, .ref m), (1, .int (zz ↑i)), (2, .int (zz ↑j)), (3, .int (zz 1))]) dX7_either_56 (by decide) rfl ?_
              refine rr_iconst dX7_either_57 ?_
              refine rr_istore (lv2 := [(0, .ref m), (1, .int (zz ↑i)), (2, .int (zz ↑j)), (3, .int (zz 1)), (4, .int (zz 0))]) dX7_either_58 (by decide) rfl ?_
              refine rr_iload 4 dX7_either_60 rfl ?_
              refine rr_iconst dX7_either_62 ?_
              refine rr_icmp_gt 99 dX7_either_63 (by decide) (by omega) (by omega) (fun c_7 => ?_) (fun c_7 => ?_)
              · skip
                exfalso; omega
              · skip
                refine rr_iload_n 3 dX7_either_66 rfl ?_
                refine rr_if_eq 91 dX7_either_67 (by decide) (by omega) (fun c_8 => ?_) (fun c_8 => ?_)
                · skip
                  exfalso; omega
                · skip
                  refine rr_aload_n 0 dX7_either_70 rfl ?_
                  refine rr_get fX7_52 0 rfl rfl dX7_either_71 ?_
                  refine rr_iload 4 dX7_either_74 rfl ?_
                  refine rr_iald 3 0 rfl rfl (by omega) (by omega) dX7_either_76 ?_
                  refine rr_aload_n 0 dX7_either_77 rfl ?_
                  refine rr_get fX7_61 0 rfl rfl dX7_either_78 ?_
                  refine rr_iload 4 dX7_either_81 rfl ?_
                  refine rr_iald 5 0 rfl rfl (by omega) (by omega) dX7_either_83 ?_
                  refine rr_icmp_ne 91 dX7_either_84 (by decide) (by omega) (by omega) (fun c_9 => ?_) (fun c_9 => ?_)
                  · skip
                    refine rr_iconst dX7_either_91 ?_
                    refine rr_istore_n (lv2 := [(0, .ref m), (1, .int (zz ↑i)), (2, .int (zz ↑j)), (3, .int (zz 0)), (4, .int (zz 0))]) dX7_either_92 (by decide) rfl ?_
                    refine rr_iinc (lv2 := [(0, .ref m), (1, .int (zz ↑i)), (2, .int (zz ↑j)), (3, .int (zz 0)), (4, .int (zz 1))]) 4 dX7_either_93 rfl (by decide) rfl ?_
                    refine rr_goto 60 dX7_either_96 (by decide) ?_
                    refine rr_iload 4 dX7_either_60 rfl ?_
                    refine rr_iconst dX7_either_62 ?_
                    refine rr_icmp_gt 99 dX7_either_63 (by decide) (by omega) (by omega) (fun c_10 => ?_) (fun c_10 => ?_)
                    · skip
                      exfalso; omega
                    · skip
                      refine rr_iload_n 3 dX7_either_66 rfl ?_
                      refine rr_if_eq 91 dX7_either_67 (by decide) (by omega) (fun c_11 => ?_) (fun c_11 => ?_)
                      · skip
                        refine rr_iconst dX7_either_91 ?_
                        refine rr_istore_n (lv2 := [(0, .ref m), (1, .int (zz ↑i)), (2, .int (zz ↑j)), (3, .int (zz 0)), (4, .int (zz 1))]) dX7_either_92 (by decide) rfl ?_
                        refine rr_iinc (lv2 := [(0, .ref m), (1, .int (zz ↑i)), (2, .int (zz ↑j)), (3, .int (zz 0)), (4, .int (zz 2))]) 4 dX7_either_93 rfl (by decide) rfl ?_
                        refine rr_goto 60 dX7_either_96 (by decide) ?_
                        refine rr_iload 4 dX7_either_60 rfl ?_
                        refine rr_iconst dX7_either_62 ?_
                        refine rr_icmp_gt 99 dX7_either_63 (by decide) (by omega) (by omega) (fun c_12 => ?_) (fun c_12 => ?_)
                        · skip
                          exfalso; omega
                        · skip
                          refine rr_iload_n 3 dX7_either_66 rfl ?_
                          refine rr_if_eq 91 dX7_either_67 (by decide) (by omega) (fun c_13 => ?_) (fun c_13 => ?_)
                          · skip
                            refine rr_iconst dX7_either_91 ?_
                            refine rr_istore_n (lv2 := [(0, .ref m), (1, .int (zz ↑i)), (2, .int (zz ↑j)), (3, .int (zz 0)), (4, .int (zz 2))]) dX7_either_92 (by decide) rfl ?_
                            refine rr_iinc (lv2 := [(0, .ref m), (1, .int (zz ↑i)), (2, .int (zz ↑j)), (3, .int (zz 0)), (4, .int (zz 3))]) 4 dX7_either_93 rfl (by decide) rfl ?_
                            refine rr_goto 60 dX7_either_96 (by decide) ?_
                            refine rr_iload 4 dX7_either_60 rfl ?_
                            refine rr_iconst dX7_either_62 ?_
                            refine rr_icmp_gt 99 dX7_either_63 (by decide) (by omega) (by omega) (fun c_14 => ?_) (fun c_14 => ?_)
                            · skip
                              exfalso; omega
                            · skip
                              refine rr_iload_n 3 dX7_either_66 rfl ?_
                              refine rr_if_eq 91 dX7_either_67 (by decide) (by omega) (fun c_15 => ?_) (fun c_15 => ?_)
                              · skip
                                refine rr_iconst dX7_either_91 ?_
                                refine rr_istore_n (lv2 := [(0, .ref m), (1, .int (zz ↑i)), (2, .int (zz ↑j)), (3, .int (zz 0)), (4, .int (zz 3))]) dX7_either_92 (by decide) rfl ?_
                                refine rr_iinc (lv2 := [(0, .ref m), (1, .int (zz ↑i)), (2, .int (zz ↑j)), (3, .int (zz 0)), (4, .int (zz 4))]) 4 dX7_either_93 rfl (by decide) rfl ?_
                                refine rr_goto 60 dX7_either_96 (by decide) ?_
                                refine rr_iload 4 dX7_either_60 rfl ?_
                                refine rr_iconst dX7_either_62 ?_
                                refine rr_icmp_gt 99 dX7_either_63 (by decide) (by omega) (by omega) (fun c_16 => ?_) (fun c_16 => ?_)
                                · skip
                                  refine rr_iload_n 3 dX7_either_99 rfl ?_
                                  refine rr_if_eq 107 dX7_either_100 (by decide) (by omega) (fun c_17 => ?_) (fun c_17 => ?_)
                                  · skip
                                    refine rr_iconst dX7_either_107 ?_
                                    exact rr_iret dX7_either_108 rfl rfl ⟨by rw [show eithA np kd lf qt wd h i j = false from decide_eq_false (by omega)]; rfl, tnM pg wn (tnM pg wn (cpI (tnM pg wn (tnM pg wn (cpI nw 0 st 0 7) i) j) 0 st 0 7) j) i, cpI ot 0 (tnM pg wn (tnM pg wn (cpI nw 0 st 0 7) i) j) 0 7, rfl⟩
                                  · skip
                                    exfalso; omega
                                · skip
                                  exfalso; omega
                              · skip
                                exfalso; omega
                          · skip
                            exfalso; omega
                      · skip
                        exfalso; omega
                  · skip
                    refine rr_iconst dX7_either_87 ?_
                    refine rr_goto 92 dX7_either_88 (by decide) ?_
                    refine rr_istore_n (lv2 := [(0, .ref m), (1, .int (zz ↑i)), (2, .int (zz ↑j)), (3, .int (zz 1)), (4, .int (zz 0))]) dX7_either_92 (by decide) rfl ?_
                    refine rr_iinc (lv2 := [(0, .ref m), (1, .int (zz ↑i)), (2, .int (zz ↑j)), (3, .int (zz 1)), (4, .int (zz 1))]) 4 dX7_either_93 rfl (by decide) rfl ?_
                    refine rr_goto 60 dX7_either_96 (by decide) ?_
                    refine rr_iload 4 dX7_either_60 rfl ?_
                    refine rr_iconst dX7_either_62 ?_
                    refine rr_icmp_gt 99 dX7_either_63 (by decide) (by omega) (by omega) (fun c_18 => ?_) (fun c_18 => ?_)
                    · skip
                      exfalso; omega
                    · skip
                      refine rr_iload_n 3 dX7_either_66 rfl ?_
                      refine rr_if_eq 91 dX7_either_67 (by decide) (by omega) (fun c_19 => ?_) (fun c_19 => ?_)
                      · skip
                        exfalso; omega
                      · skip
                        refine rr_aload_n 0 dX7_either_70 rfl ?_
                        refine rr_get fX7_52 0 rfl rfl dX7_either_71 ?_
                        refine rr_iload 4 dX7_either_74 rfl ?_
                        refine rr_iald 3 1 rfl rfl (by omega) (by omega) dX7_either_76 ?_
                        refine rr_aload_n 0 dX7_either_77 rfl ?_
                        refine rr_get fX7_61 0 rfl rfl dX7_either_78 ?_
                        refine rr_iload 4 dX7_either_81 rfl ?_
                        refine rr_iald 5 1 rfl rfl (by omega) (by omega) dX7_either_83 ?_
                        refine rr_icmp_ne 91 dX7_either_84 (by decide) (by omega) (by omega) (fun c_20 => ?_) (fun c_20 => ?_)
                        · skip
                          refine rr_iconst dX7_either_91 ?_
                          refine rr_istore_n (lv2 := [(0, .ref m), (1, .int (zz ↑i)), (2, .int (zz ↑j)), (3, .int (zz 0)), (4, .int (zz 1))]) dX7_either_92 (by decide) rfl ?_
                          refine rr_iinc (lv2 := [(0, .ref m), (1, .int (zz ↑i)), (2, .int (zz ↑j)), (3, .int (zz 0)), (4, .int (zz 2))]) 4 dX7_either_93 rfl (by decide) rfl ?_
                          refine rr_goto 60 dX7_either_96 (by decide) ?_
                          refine rr_iload 4 dX7_either_60 rfl ?_
                          refine rr_iconst dX7_either_62 ?_
                          refine rr_icmp_gt 99 dX7_either_63 (by decide) (by omega) (by omega) (fun c_21 => ?_) (fun c_21 => ?_)
                          · skip
                            exfalso; omega
                          · skip
                            refine rr_iload_n 3 dX7_either_66 rfl ?_
                            refine rr_if_eq 91 dX7_either_67 (by decide) (by omega) (fun c_22 => ?_) (fun c_22 => ?_)
                            · skip
                              refine rr_iconst dX7_either_91 ?_
                              refine rr_istore_n (lv2 := [(0, .ref m), (1, .int (zz ↑i)), (2, .int (zz ↑j)), (3, .int (zz 0)), (4, .int (zz 2))]) dX7_either_92 (by decide) rfl ?_
                              refine rr_iinc (lv2 := [(0, .ref m), (1, .int (zz ↑i)), (2, .int (zz ↑j)), (3, .int (zz 0)), (4, .int (zz 3))]) 4 dX7_either_93 rfl (by decide) rfl ?_
                              refine rr_goto 60 dX7_either_96 (by decide) ?_
                              refine rr_iload 4 dX7_either_60 rfl ?_
                              refine rr_iconst dX7_either_62 ?_
                              refine rr_icmp_gt 99 dX7_either_63 (by decide) (by omega) (by omega) (fun c_23 => ?_) (fun c_23 => ?_)
                              · skip
                                exfalso; omega
                              · skip
                                refine rr_iload_n 3 dX7_either_66 rfl ?_
                                refine rr_if_eq 91 dX7_either_67 (by decide) (by omega) (fun c_24 => ?_) (fun c_24 => ?_)
                                · skip
                                  refine rr_iconst dX7_either_91 ?_
                                  refine rr_istore_n (lv2 := [(0, .ref m), (1, .int (zz ↑i)), (2, .int (zz ↑j)), (3, .int (zz 0)), (4, .int (zz 3))]) dX7_either_92 (by decide) rfl ?_
                                  refine rr_iinc (lv2 := [(0, .ref m), (1, .int (zz ↑i)), (2, .int (zz ↑j)), (3, .int (zz 0)), (4, .int (zz 4))]) 4 dX7_either_93 rfl (by decide) rfl ?_
                                  refine rr_goto 60 dX7_either_96 (by decide) ?_
                                  refine rr_iload 4 dX7_either_60 rfl ?_
                                  refine rr_iconst dX7_either_62 ?_
                                  refine rr_icmp_gt 99 dX7_either_63 (by decide) (by omega) (by omega) (fun c_25 => ?_) (fun c_25 => ?_)
                                  · skip
                                    refine rr_iload_n 3 dX7_either_99 rfl ?_
                                    refine rr_if_eq 107 dX7_either_100 (by decide) (by omega) (fun c_26 => ?_) (fun c_26 => ?_)
                                    · skip
                                      refine rr_iconst dX7_either_107 ?_
                                      exact rr_iret dX7_either_108 rfl rfl ⟨by rw [show eithA np kd lf qt wd h i j = false from decide_eq_false (by omega)]; rfl, tnM pg wn (tnM pg wn (cpI (tnM pg wn (tnM pg wn (cpI nw 0 st 0 7) i) j) 0 st 0 7) j) i, cpI ot 0 (tnM pg wn (tnM pg wn (cpI nw 0 st 0 7) i) j) 0 7, rfl⟩
                                    · skip
                                      exfalso; omega
                                  · skip
                                    exfalso; omega
                                · skip
                                  exfalso; omega
                            · skip
                              exfalso; omega
                        · skip
                          refine rr_iconst dX7_either_87 ?_
                          refine rr_goto 92 dX7_either_88 (by decide) ?_
                          refine rr_istore_n (lv2 := [(0, .ref m), (1, .int (zz ↑i)), (2, .int (zz ↑j)), (3, .int (zz 1)), (4, .int (zz 1))]) dX7_either_92 (by decide) rfl ?_
                          refine rr_iinc (lv2 := [(0, .ref m), (1, .int (zz ↑i)), (2, .int (zz ↑j)), (3, .int (zz 1)), (4, .int (zz 2))]) 4 dX7_either_93 rfl (by decide) rfl ?_
                          refine rr_goto 60 dX7_either_96 (by decide) ?_
                          refine rr_iload 4 dX7_either_60 rfl ?_
                          refine rr_iconst dX7_either_62 ?_
                          refine rr_icmp_gt 99 dX7_either_63 (by decide) (by omega) (by omega) (fun c_27 => ?_) (fun c_27 => ?_)
                          · skip
                            exfalso; omega
                          · skip
                            refine rr_iload_n 3 dX7_either_66 rfl ?_
                            refine rr_if_eq 91 dX7_either_67 (by decide) (by omega) (fun c_28 => ?_) (fun c_28 => ?_)
                            · skip
                              exfalso; omega
                            · skip
                              refine rr_aload_n 0 dX7_either_70 rfl ?_
                              refine rr_get fX7_52 0 rfl rfl dX7_either_71 ?_
                              refine rr_iload 4 dX7_either_74 rfl ?_
                              refine rr_iald 3 2 rfl rfl (by omega) (by omega) dX7_either_76 ?_
                              refine rr_aload_n 0 dX7_either_77 rfl ?_
                              refine rr_get fX7_61 0 rfl rfl dX7_either_78 ?_
                              refine rr_iload 4 dX7_either_81 rfl ?_
                              refine rr_iald 5 2 rfl rfl (by omega) (by omega) dX7_either_83 ?_
                              refine rr_icmp_ne 91 dX7_either_84 (by decide) (by omega) (by omega) (fun c_29 => ?_) (fun c_29 => ?_)
                              · skip
                                refine rr_iconst dX7_either_91 ?_
                                refine rr_istore_n (lv2 := [(0, .ref m), (1, .int (zz ↑i)), (2, .int (zz ↑j)), (3, .int (zz 0)), (4, .int (zz 2))]) dX7_either_92 (by decide) rfl ?_
                                refine rr_iinc (lv2 := [(0, .ref m), (1, .int (zz ↑i)), (2, .int (zz ↑j)), (3, .int (zz 0)), (4, .int (zz 3))]) 4 dX7_either_93 rfl (by decide) rfl ?_
                                refine rr_goto 60 dX7_either_96 (by decide) ?_
                                refine rr_iload 4 dX7_either_60 rfl ?_
                                refine rr_iconst dX7_either_62 ?_
                                refine rr_icmp_gt 99 dX7_either_63 (by decide) (by omega) (by omega) (fun c_30 => ?_) (fun c_30 => ?_)
                                · skip
                                  exfalso; omega
                                · skip
                                  refine rr_iload_n 3 dX7_either_66 rfl ?_
                                  refine rr_if_eq 91 dX7_either_67 (by decide) (by omega) (fun c_31 => ?_) (fun c_31 => ?_)
                                  · skip
                                    refine rr_iconst dX7_either_91 ?_
                                    refine rr_istore_n (lv2 := [(0, .ref m), (1, .int (zz ↑i)), (2, .int (zz ↑j)), (3, .int (zz 0)), (4, .int (zz 3))]) dX7_either_92 (by decide) rfl ?_
                                    refine rr_iinc (lv2 := [(0, .ref m), (1, .int (zz ↑i)), (2, .int (zz ↑j)), (3, .int (zz 0)), (4, .int (zz 4))]) 4 dX7_either_93 rfl (by decide) rfl ?_
                                    refine rr_goto 60 dX7_either_96 (by decide) ?_
                                    refine rr_iload 4 dX7_either_60 rfl ?_
                                    refine rr_iconst dX7_either_62 ?_
                                    refine rr_icmp_gt 99 dX7_either_63 (by decide) (by omega) (by omega) (fun c_32 => ?_) (fun c_32 => ?_)
                                    · skip
                                      refine rr_iload_n 3 dX7_either_99 rfl ?_
                                      refine rr_if_eq 107 dX7_either_100 (by decide) (by omega) (fun c_33 => ?_) (fun c_33 => ?_)
                                      · skip
                                        refine rr_iconst dX7_either_107 ?_
                                        exact rr_iret dX7_either_108 rfl rfl ⟨by rw [show eithA np kd lf qt wd h i j = false from decide_eq_false (by omega)]; rfl, tnM pg wn (tnM pg wn (cpI (tnM pg wn (tnM pg wn (cpI nw 0 st 0 7) i) j) 0 st 0 7) j) i, cpI ot 0 (tnM pg wn (tnM pg wn (cpI nw 0 st 0 7) i) j) 0 7, rfl⟩
                                      · skip
                                        exfalso; omega
                                    · skip
                                      exfalso; omega
                                  · skip
                                    exfalso; omega
                              · skip
                                refine rr_iconst dX7_either_87 ?_
                                refine rr_goto 92 dX7_either_88 (by decide) ?_
                                refine rr_istore_n (lv2 := [(0, .ref m), (1, .int (zz ↑i)), (2, .int (zz ↑j)), (3, .int (zz 1)), (4, .int (zz 2))]) dX7_either_92 (by decide) rfl ?_
                                refine rr_iinc (lv2 := [(0, .ref m), (1, .int (zz ↑i)), (2, .int (zz ↑j)), (3, .int (zz 1)), (4, .int (zz 3))]) 4 dX7_either_93 rfl (by decide) rfl ?_
                                refine rr_goto 60 dX7_either_96 (by decide) ?_
                                refine rr_iload 4 dX7_either_60 rfl ?_
                                refine rr_iconst dX7_either_62 ?_
                                refine rr_icmp_gt 99 dX7_either_63 (by decide) (by omega) (by omega) (fun c_34 => ?_) (fun c_34 => ?_)
                                · skip
                                  exfalso; omega
                                · skip
                                  refine rr_iload_n 3 dX7_either_66 rfl ?_
                                  refine rr_if_eq 91 dX7_either_67 (by decide) (by omega) (fun c_35 => ?_) (fun c_35 => ?_)
                                  · skip
                                    exfalso; omega
                                  · skip
                                    refine rr_aload_n 0 dX7_either_70 rfl ?_
                                    refine rr_get fX7_52 0 rfl rfl dX7_either_71 ?_
                                    refine rr_iload 4 dX7_either_74 rfl ?_
                                    refine rr_iald 3 3 rfl rfl (by omega) (by omega) dX7_either_76 ?_
                                    refine rr_aload_n 0 dX7_either_77 rfl ?_
                                    refine rr_get fX7_61 0 rfl rfl dX7_either_78 ?_
                                    refine rr_iload 4 dX7_either_81 rfl ?_
                                    refine rr_iald 5 3 rfl rfl (by omega) (by omega) dX7_either_83 ?_
                                    refine rr_icmp_ne 91 dX7_either_84 (by decide) (by omega) (by omega) (fun c_36 => ?_) (fun c_36 => ?_)
                                    · skip
                                      refine rr_iconst dX7_either_91 ?_
                                      refine rr_istore_n (lv2 := [(0, .ref m), (1, .int (zz ↑i)), (2, .int (zz ↑j)), (3, .int (zz 0)), (4, .int (zz 3))]) dX7_either_92 (by decide) rfl ?_
                                      refine rr_iinc (lv2 := [(0, .ref m), (1, .int (zz ↑i)), (2, .int (zz ↑j)), (3, .int (zz 0)), (4, .int (zz 4))]) 4 dX7_either_93 rfl (by decide) rfl ?_
                                      refine rr_goto 60 dX7_either_96 (by decide) ?_
                                      refine rr_iload 4 dX7_either_60 rfl ?_
                                      refine rr_iconst dX7_either_62 ?_
                                      refine rr_icmp_gt 99 dX7_either_63 (by decide) (by omega) (by omega) (fun c_37 => ?_) (fun c_37 => ?_)
                                      · skip
                                        refine rr_iload_n 3 dX7_either_99 rfl ?_
                                        refine rr_if_eq 107 dX7_either_100 (by decide) (by omega) (fun c_38 => ?_) (fun c_38 => ?_)
                                        · skip
                                          refine rr_iconst dX7_either_107 ?_
                                          exact rr_iret dX7_either_108 rfl rfl ⟨by rw [show eithA np kd lf qt wd h i j = false from decide_eq_false (by omega)]; rfl, tnM pg wn (tnM pg wn (cpI (tnM pg wn (tnM pg wn (cpI nw 0 st 0 7) i) j) 0 st 0 7) j) i, cpI ot 0 (tnM pg wn (tnM pg wn (cpI nw 0 st 0 7) i) j) 0 7, rfl⟩
                                        · skip
                                          exfalso; omega
                                      · skip
                                        exfalso; omega
                                    · skip
                                      refine rr_iconst dX7_either_87 ?_
                                      refine rr_goto 92 dX7_either_88 (by decide) ?_
                                      refine rr_istore_n (lv2 := [(0, .ref m), (1, .int (zz ↑i)), (2, .int (zz ↑j)), (3, .int (zz 1)), (4, .int (zz 3))]) dX7_either_92 (by decide) rfl ?_
                                      refine rr_iinc (lv2 := [(0, .ref m), (1, .int (zz ↑i)), (2, .int (zz ↑j)), (3, .int (zz 1)), (4, .int (zz 4))]) 4 dX7_either_93 rfl (by decide) rfl ?_
                                      refine rr_goto 60 dX7_either_96 (by decide) ?_
                                      refine rr_iload 4 dX7_either_60 rfl ?_
                                      refine rr_iconst dX7_either_62 ?_
                                      refine rr_icmp_gt 99 dX7_either_63 (by decide) (by omega) (by omega) (fun c_39 => ?_) (fun c_39 => ?_)
                                      · skip
                                        refine rr_iload_n 3 dX7_either_99 rfl ?_
                                        refine rr_if_eq 107 dX7_either_100 (by decide) (by omega) (fun c_40 => ?_) (fun c_40 => ?_)
                                        · skip
                                          exfalso; omega
                                        · skip
                                          refine rr_iconst dX7_either_103 ?_
                                          refine rr_goto 108 dX7_either_104 (by decide) ?_
                                          exact rr_iret dX7_either_108 rfl rfl ⟨by rw [show eithA np kd lf qt wd h i j = true from decide_eq_true ⟨hc, hk, by omega, by omega, by omega, by omega⟩]; rfl, tnM pg wn (tnM pg wn (cpI (tnM pg wn (tnM pg wn (cpI nw 0 st 0 7) i) j) 0 st 0 7) j) i, cpI ot 0 (tnM pg wn (tnM pg wn (cpI nw 0 st 0 7) i) j) 0 7, rfl⟩
                                      · skip
                                        exfalso; omega
            · skip
              exfalso; omega
          · skip
            refine rr_call (wr := [(mX, aI E 7 (cpI ot 0 (tnM pg wn (tnM pg wn (cpI nw 0 st 0 7) i) j) 0 7))]) (call_V (q0 := 0) kX7_215 (c_Mboth_n E (d + 0) m mP mW mR mB mS mA mK mE mT mD nP nW nR nB mN mO mQ mX np nr ac ke se tl at_ rp rr dp pg wn ro (tnM pg wn (tnM pg wn (cpI nw 0 st 0 7) i) j) st kd lf qt wd rx ry h hP hpc hRo hrc hA ho hv j i (by omega) (by omega) hk) rfl rfl rfl rfl (by omega) (by decide) (Nat.le_of_ble_eq_true rfl) (Nat.le_of_ble_eq_true rfl) dX7_either_47) [0, 1, 2, 3, 4] [5] rfl rfl rfl rfl rfl (Nat.zero_le _) (Nat.zero_le _) (fun v w1 hp1 => ?_)
            obtain ⟨rfl, g5, rfl⟩ := hp1
            refine RR.eq (st2 := [.int (zz 0)]) (ws2 := [(mX, aI E 7 (cpI ot 0 (tnM pg wn (tnM pg wn (cpI nw 0 st 0 7) i) j) 0 7)), (m, ob 7 [.int (zz ↑np), .ref mP, .ref mW, .int (zz ↑nr), .ref mR, .ref mB, .ref mS, .int (zz ↑ac), .ref mA, .int (zz ↑ke), .ref mK, .int (zz ↑se), .ref mE, .ref mT, .int (zz ↑tl), .int (zz ↑at_), .ref mD, .int (zz ↑rp), .ref nP, .ref nW, .int (zz ↑rr), .ref nR, .ref nB, .ref mN, .ref mO, .ref mQ, .int (zz dp), .ref mX]), (mP, aI E 21 pg), (mW, aI E 10 wn), (mN, aI E 7 g5), (mS, aI E 7 st)]) rfl rfl rfl rfl ?_
            refine RR.ws (ws2 := [(m, ob 7 [.int (zz ↑np), .ref mP, .ref mW, .int (zz ↑nr), .ref mR, .ref mB, .ref mS, .int (zz ↑ac), .ref mA, .int (zz ↑ke), .ref mK, .int (zz ↑se), .ref mE, .ref mT, .int (zz ↑tl), .int (zz ↑at_), .ref mD, .int (zz ↑rp), .ref nP, .ref nW, .int (zz ↑rr), .ref nR, .ref nB, .ref mN, .ref mO, .ref mQ, .int (zz dp), .ref mX]), (mP, aI E 21 pg), (mW, aI E 10 wn), (mN, aI E 7 g5), (mS, aI E 7 st), (mX, aI E 7 (cpI ot 0 (tnM pg wn (tnM pg wn (cpI nw 0 st 0 7) i) j) 0 7))]) [1, 2, 3, 4, 5, 0] rfl rfl ?_
            refine rr_if_ne 55 dX7_either_50 (by decide) (by omega) (fun c_41 => ?_) (fun c_41 => ?_)
            · skip
              exfalso; omega
            · skip
              refine rr_iconst dX7_either_53 ?_
              exact rr_iret dX7_either_54 rfl rfl ⟨by rw [show eithA np kd lf qt wd h i j = false from decide_eq_false (fun z => hk z.2.1)]; rfl, g5, cpI ot 0 (tnM pg wn (tnM pg wn (cpI nw 0 st 0 7) i) j) 0 7, rfl⟩
        · skip
          exfalso; omega
      · skip
        refine rr_call (wr := [(mX, aI E 7 ot)]) (call_V (q0 := 0) kX7_215 (c_Mboth_n E (d + 0) m mP mW mR mB mS mA mK mE mT mD nP nW nR nB mN mO mQ mX np nr ac ke se tl at_ rp rr dp pg wn ro nw st kd lf qt wd rx ry h hP hpc hRo hrc hA ho hv i j (by omega) (by omega) hc) rfl rfl rfl rfl (by omega) (by decide) (Nat.le_of_ble_eq_true rfl) (Nat.le_of_ble_eq_true rfl) dX7_either_21) [0, 1, 2, 3, 4] [5] rfl rfl rfl rfl rfl (Nat.zero_le _) (Nat.zero_le _) (fun v w1 hp1 => ?_)
        obtain ⟨rfl, g4, rfl⟩ := hp1
        refine RR.eq (st2 := [.int (zz 0)]) (ws2 := [(mX, aI E 7 ot), (m, ob 7 [.int (zz ↑np), .ref mP, .ref mW, .int (zz ↑nr), .ref mR, .ref mB, .ref mS, .int (zz ↑ac), .ref mA, .int (zz ↑ke), .ref mK, .int (zz ↑se), .ref mE, .ref mT, .int (zz ↑tl), .int (zz ↑at_), .ref mD, .int (zz ↑rp), .ref nP, .ref nW, .int (zz ↑rr), .ref nR, .ref nB, .ref mN, .ref mO, .ref mQ, .int (zz dp), .ref mX]), (mP, aI E 21 pg), (mW, aI E 10 wn), (mN, aI E 7 g4), (mS, aI E 7 st)]) rfl rfl rfl rfl ?_
        refine RR.ws (ws2 := [(m, ob 7 [.int (zz ↑np), .ref mP, .ref mW, .int (zz ↑nr), .ref mR, .ref mB, .ref mS, .int (zz ↑ac), .ref mA, .int (zz ↑ke), .ref mK, .int (zz ↑se), .ref mE, .ref mT, .int (zz ↑tl), .int (zz ↑at_), .ref mD, .int (zz ↑rp), .ref nP, .ref nW, .int (zz ↑rr), .ref nR, .ref nB, .ref mN, .ref mO, .ref mQ, .int (zz dp), .ref mX]), (mP, aI E 21 pg), (mW, aI E 10 wn), (mN, aI E 7 g4), (mS, aI E 7 st), (mX, aI E 7 ot)]) [1, 2, 3, 4, 5, 0] rfl rfl ?_
        refine rr_if_ne 29 dX7_either_24 (by decide) (by omega) (fun c_42 => ?_) (fun c_42 => ?_)
        · skip
          exfalso; omega
        · skip
          refine rr_iconst dX7_either_27 ?_
          exact rr_iret dX7_either_28 rfl rfl ⟨by rw [show eithA np kd lf qt wd h i j = false from decide_eq_false (fun z => hc z.1)]; rfl, g4, ot, rfl⟩
    · skip
      exfalso; omega
set_option maxRecDepth 100000 in
set_option maxHeartbeats 400000 in
theorem c_Mdrift_bad (E : Ev) (d : Nat) (m mP mW mR mB mS mA mK mE mT mD nP nW nR nB mN mO mQ mX : Nat) (np nr ac ke se tl at_ rp rr : Nat) (dp : Int) (y : Int) (gy : -2147483648 ≤ y ∧ y < 2147483648) (hy : ¬ (1 ≤ y ∧ y ≤ 20)) : SP E mX7_drift (d + 3) 0 0 [.ref m, .int (zz y)] [(m, ob 7 [.int (zz ↑np), .ref mP, .ref mW, .int (zz ↑nr), .ref mR, .ref mB, .ref mS, .int (zz ↑ac), .ref mA, .int (zz ↑ke), .ref mK, .int (zz ↑se), .ref mE, .ref mT, .int (zz ↑tl), .int (zz ↑at_), .ref mD, .int (zz ↑rp), .ref nP, .ref nW, .int (zz ↑rr), .ref nR, .ref nB, .ref mN, .ref mO, .ref mQ, .int (zz dp), .ref mX])] (FP (some (.int (zz (-1)))) [(m, ob 7 [.int (zz ↑np), .ref mP, .ref mW, .int (zz ↑nr), .ref mR, .ref mB, .ref mS, .int (zz ↑ac), .ref mA, .int (zz ↑ke), .ref mK, .int (zz ↑se), .ref mE, .ref mT, .int (zz ↑tl), .int (zz ↑at_), .ref mD, .int (zz ↑rp), .ref nP, .ref nW, .int (zz ↑rr), .ref nR, .ref nB, .ref mN, .ref mO, .ref mQ, .int (zz dp), .ref mX])]) := by
  show RR E mX7_drift (d + 3) 0 0 0 [(0, .ref m), (1, .int (zz y))] [] [(m, ob 7 [.int (zz ↑np), .ref mP, .ref mW, .int (zz ↑nr), .ref mR, .ref mB, .ref mS, .int (zz ↑ac), .ref mA, .int (zz ↑ke), .ref mK, .int (zz ↑se), .ref mE, .ref mT, .int (zz ↑tl), .int (zz ↑at_), .ref mD, .int (zz ↑rp), .ref nP, .ref nW, .int (zz ↑rr), .ref nR, .ref nB, .ref mN, .ref mO, .ref mQ, .int (zz dp), .ref mX])] (FP (some (.int (zz (-1)))) [(m, ob 7 [.int (zz ↑np), .ref mP, .ref mW, .int (zz ↑nr), .ref mR, .ref mB, .ref mS, .int (zz ↑ac), .ref mA, .int (zz ↑ke), .ref mK, .int (zz ↑se), .ref mE, .ref mT, .int (zz ↑tl), .int (zz ↑at_), .ref mD, .int (zz ↑rp), .ref nP, .ref nW, .int (zz ↑rr), .ref nR, .ref nB, .ref mN, .ref mO, .ref mQ, .int (zz dp), .ref mX])])
  refine rr_iload_n 1 dX7_drift_0 rfl ?_
  refine rr_iconst dX7_drift_1 ?_
  refine rr_bipush dX7_drift_2 (by decide) ?_
  refine rr_callFi (ws2 := [(m, ob 7 [.int (zz ↑np), .ref mP, .ref mW, .int (zz ↑nr), .ref mR, .ref mB, .ref mS, .int (zz ↑ac), .ref mA, .int (zz ↑ke), .ref mK, .int (zz ↑se), .ref mE, .ref mT, .int (zz ↑tl), .int (zz ↑at_), .ref mD, .int (zz ↑rp), .ref nP, .ref nW, .int (zz ↑rr), .ref nR, .ref nB, .ref mN, .ref mO, .ref mQ, .int (zz dp), .ref mX])]) (wr := [(m, ob 7 [.int (zz ↑np), .ref mP, .ref mW, .int (zz ↑nr), .ref mR, .ref mB, .ref mS, .int (zz ↑ac), .ref mA, .int (zz ↑ke), .ref mK, .int (zz ↑se), .ref mE, .ref mT, .int (zz ↑tl), .int (zz ↑at_), .ref mD, .int (zz ↑rp), .ref nP, .ref nW, .int (zz ↑rr), .ref nR, .ref nB, .ref mN, .ref mO, .ref mQ, .int (zz dp), .ref mX])]) (call_S kX7_88 (c_in E (d + 2) y 1 20 (by omega) (by omega) (by omega)) rfl (by omega) (by decide) (Nat.le_of_ble_eq_true rfl) (Nat.le_of_ble_eq_true rfl) dX7_drift_4) [] [0] [0] rfl rfl rfl rfl rfl rfl rfl ?_
  refine rr_if_neD 12 dX7_drift_7 (by decide) (fun c_1 => ?_) (fun c_1 => ?_)
  · skip
    exfalso; omega
  · skip
    refine rr_iconst dX7_drift_10 ?_
    exact rr_iret dX7_drift_11 rfl rfl ⟨rfl, rfl⟩
set_option maxRecDepth 100000 in
set_option maxHeartbeats 400000 in
theorem c_Mdrift_no (E : Ev) (d : Nat) (m mP mW mR mB mS mA mK mE mT mD nP nW nR nB mN mO mQ mX : Nat) (np nr ac ke se tl at_ rp rr : Nat) (dp : Int) (pg wn ro nw st kd lf qt wd rx ry h : Nat → Int) (hP : PL np kd lf qt wd pg wn) (hpc : pOK np kd lf qt wd) (hRo : RoL nr rx ry ro) (hrc : rOK nr rx ry) (hA : AG 7 st (amF h)) (ho : hOK h) (hv : hV np h) (y : Int) (hy : 1 ≤ y ∧ y ≤ 20) (hd : h 2 = 0) : SP E mX7_drift (d + 3) 0 0 [.ref m, .int (zz y)] [(m, ob 7 [.int (zz ↑np), .ref mP, .ref mW, .int (zz ↑nr), .ref mR, .ref mB, .ref mS, .int (zz ↑ac), .ref mA, .int (zz ↑ke), .ref mK, .int (zz ↑se), .ref mE, .ref mT, .int (zz ↑tl), .int (zz ↑at_), .ref mD, .int (zz ↑rp), .ref nP, .ref nW, .int (zz ↑rr), .ref nR, .ref nB, .ref mN, .ref mO, .ref mQ, .int (zz dp), .ref mX]), (mN, aI E 7 nw), (mS, aI E 7 st)] (fun v w1 => v = some (.int (zz (-2))) ∧ ∃ nw2 : Nat → Int, w1 = [(m, ob 7 [.int (zz ↑np), .ref mP, .ref mW, .int (zz ↑nr), .ref mR, .ref mB, .ref mS, .int (zz ↑ac), .ref mA, .int (zz ↑ke), .ref mK, .int (zz ↑se), .ref mE, .ref mT, .int (zz ↑tl), .int (zz ↑at_), .ref mD, .int (zz ↑rp), .ref nP, .ref nW, .int (zz ↑rr), .ref nR, .ref nB, .ref mN, .ref mO, .ref mQ, .int (zz dp), .ref mX]), (mN, aI E 7 nw2), (mS, aI E 7 st)]) := by
  show RR E mX7_drift (d + 3) 0 0 0 [(0, .ref m), (1, .int (zz y))] [] [(m, ob 7 [.int (zz ↑np), .ref mP, .ref mW, .int (zz ↑nr), .ref mR, .ref mB, .ref mS, .int (zz ↑ac), .ref mA, .int (zz ↑ke), .ref mK, .int (zz ↑se), .ref mE, .ref mT, .int (zz ↑tl), .int (zz ↑at_), .ref mD, .int (zz ↑rp), .ref nP, .ref nW, .int (zz ↑rr), .ref nR, .ref nB, .ref mN, .ref mO, .ref mQ, .int (zz dp), .ref mX]), (mN, aI E 7 nw), (mS, aI E 7 st)] (fun v w1 => v = some (.int (zz (-2))) ∧ ∃ nw2 : Nat → Int, w1 = [(m, ob 7 [.int (zz ↑np), .ref mP, .ref mW, .int (zz ↑nr), .ref mR, .ref mB, .ref mS, .int (zz ↑ac), .ref mA, .int (zz ↑ke), .ref mK, .int (zz ↑se), .ref mE, .ref mT, .int (zz ↑tl), .int (zz ↑at_), .ref mD, .int (zz ↑rp), .ref nP, .ref nW, .int (zz ↑rr), .ref nR, .ref nB, .ref mN, .ref mO, .ref mQ, .int (zz dp), .ref mX]), (mN, aI E 7 nw2), (mS, aI E 7 st)])
  have hp := hP.ok hpc
  have hr := hRo.ok hrc
  have hn := hpc.1
  have hr1 := hrc.1
  have hs := hA.ok ho hv
  obtain ⟨o0, o1, o2, o3, o5, o6⟩ := id ho
  obtain ⟨e0, e1, e2, e3, e4, e5, e6⟩ := hA.all
  refine rr_iload_n 1 dX7_drift_0 rfl ?_
  refine rr_iconst dX7_drift_1 ?_
  refine rr_bipush dX7_drift_2 (by decide) ?_
  refine rr_callFi (ws2 := [(m, ob 7 [.int (zz ↑np), .ref mP, .ref mW, .int (zz ↑nr), .ref mR, .ref mB, .ref mS, .int (zz ↑ac), .ref mA, .int (zz ↑ke), .ref mK, .int (zz ↑se), .ref mE, .ref mT, .int (zz ↑tl), .int (zz ↑at_), .ref mD, .int (zz ↑rp), .ref nP, .ref nW, .int (zz ↑rr), .ref nR, .ref nB, .ref mN, .ref mO, .ref mQ, .int (zz dp), .ref mX]), (mN, aI E 7 nw), (mS, aI E 7 st)]) (wr := [(m, ob 7 [.int (zz ↑np), .ref mP, .ref mW, .int (zz ↑nr), .ref mR, .ref mB, .ref mS, .int (zz ↑ac), .ref mA, .int (zz ↑ke), .ref mK, .int (zz ↑se), .ref mE, .ref mT, .int (zz ↑tl), .int (zz ↑at_), .ref mD, .int (zz ↑rp), .ref nP, .ref nW, .int (zz ↑rr), .ref nR, .ref nB, .ref mN, .ref mO, .ref mQ, .int (zz dp), .ref mX]), (mN, aI E 7 nw), (mS, aI E 7 st)]) (call_S kX7_88 (c_in E (d + 2) y 1 20 (by omega) (by omega) (by omega)) rfl (by omega) (by decide) (Nat.le_of_ble_eq_true rfl) (Nat.le_of_ble_eq_true rfl) dX7_drift_4) [] [0, 1, 2] [0, 1, 2] rfl rfl rfl rfl rfl rfl rfl ?_
  refine rr_if_neD 12 dX7_drift_7 (by decide) (fun c_1 => ?_) (fun c_1 => ?_)
  · skip
    refine rr_aload_n 0 dX7_drift_12 rfl ?_
    refine rr_aload_n 0 dX7_drift_13 rfl ?_
    refine rr_get fX7_22 0 rfl rfl dX7_drift_14 ?_
    have ke_2 : cpI nw 0 st 0 7 0 = st 0 := rfl
    have ke_3 : cpI nw 0 st 0 7 1 = st 1 := rfl
    have ke_4 : cpI nw 0 st 0 7 2 = st 2 := rfl
    have ke_5 : cpI nw 0 st 0 7 3 = st 3 := rfl
    have ke_6 : cpI nw 0 st 0 7 4 = st 4 := rfl
    have ke_7 : cpI nw 0 st 0 7 5 = st 5 := rfl
    have ke_8 : cpI nw 0 st 0 7 6 = st 6 := rfl
    have hA9 : AG 7 (cpI nw 0 st 0 7) (amF h) := cp7 hA
    have ho9 : hOK h := ho
    have hv9 : hV np h := hv
    have hm9 : mOK np (cpI nw 0 st 0 7) := hA9.ok ho9 hv9
    obtain ⟨ea9, eb9, ec9, ed9, ee9, ef9, eg9⟩ := hA9.all
    obtain ⟨na9, nb9, nc9, nd9, nf9, ng9⟩ := id hm9
    refine rr_callFv (ws2 := [(m, ob 7 [.int (zz ↑np), .ref mP, .ref mW, .int (zz ↑nr), .ref mR, .ref mB, .ref mS, .int (zz ↑ac), .ref mA, .int (zz ↑ke), .ref mK, .int (zz ↑se), .ref mE, .ref mT, .int (zz ↑tl), .int (zz ↑at_), .ref mD, .int (zz ↑rp), .ref nP, .ref nW, .int (zz ↑rr), .ref nR, .ref nB, .ref mN, .ref mO, .ref mQ, .int (zz dp), .ref mX]), (mN, aI E 7 (cpI nw 0 st 0 7)), (mS, aI E 7 st)]) (wr := []) (call_V (q0 := 0) kX7_180 (c_from E (d + 1) m mP mW mR mB mS mA mK mE mT mD nP nW nR nB mN mO mQ mX np nr ac ke se tl at_ rp rr dp mS nw st) rfl rfl rfl rfl (by omega) (by decide) (Nat.le_of_ble_eq_true rfl) (Nat.le_of_ble_eq_true rfl) dX7_drift_17) [0, 1, 2] [] [0, 1, 2] rfl rfl rfl rfl rfl rfl rfl ?_
    refine rr_aload_n 0 dX7_drift_20 rfl ?_
    refine rr_callFi (ws2 := [(m, ob 7 [.int (zz ↑np), .ref mP, .ref mW, .int (zz ↑nr), .ref mR, .ref mB, .ref mS, .int (zz ↑ac), .ref mA, .int (zz ↑ke), .ref mK, .int (zz ↑se), .ref mE, .ref mT, .int (zz ↑tl), .int (zz ↑at_), .ref mD, .int (zz ↑rp), .ref nP, .ref nW, .int (zz ↑rr), .ref nR, .ref nB, .ref mN, .ref mO, .ref mQ, .int (zz dp), .ref mX]), (mN, aI E 7 (cpI nw 0 st 0 7)), (mS, aI E 7 st)]) (wr := [(mS, aI E 7 st)]) (call_V (q0 := 0) kX7_151 (c_MisDown E (d + 2) m mP mW mR mB mS mA mK mE mT mD nP nW nR nB mN mO mQ mX np nr ac ke se tl at_ rp rr dp (cpI nw 0 st 0 7) (by omega)) rfl rfl rfl rfl (by omega) (by decide) (Nat.le_of_ble_eq_true rfl) (Nat.le_of_ble_eq_true rfl) dX7_drift_21) [0, 1] [2] [1, 2, 0] rfl rfl rfl rfl rfl rfl rfl ?_
    refine rr_if_eqD 30 dX7_drift_24 (by decide) (fun c_10 => ?_) (fun c_10 => ?_)
    · skip
      exfalso; omega
    · skip
      refine rr_bipush dX7_drift_27 (by decide) ?_
      exact rr_iret dX7_drift_29 rfl rfl ⟨rfl, _, rfl⟩
  · skip
    exfalso; omega
set_option maxRecDepth 100000 in
set_option maxHeartbeats 400000 in
theorem c_Mdrift_y (E : Ev) (d : Nat) (m mP mW mR mB mS mA mK mE mT mD nP nW nR nB mN mO mQ mX : Nat) (np nr ac ke se tl at_ rp rr : Nat) (dp : Int) (pg wn ro nw st kd lf qt wd rx ry h : Nat → Int) (hP : PL np kd lf qt wd pg wn) (hpc : pOK np kd lf qt wd) (hRo : RoL nr rx ry ro) (hrc : rOK nr rx ry) (hA : AG 7 st (amF h)) (ho : hOK h) (hv : hV np h) (mm : Nat) (hm : 1 ≤ mm ∧ mm ≤ 20) (hd : ¬ h 2 = 0) : SP E mX7_drift (d + 3) 0 0 [.ref m, .int (zz ↑mm)] [(m, ob 7 [.int (zz ↑np), .ref mP, .ref mW, .int (zz ↑nr), .ref mR, .ref mB, .ref mS, .int (zz ↑ac), .ref mA, .int (zz ↑ke), .ref mK, .int (zz ↑se), .ref mE, .ref mT, .int (zz ↑tl), .int (zz ↑at_), .ref mD, .int (zz ↑rp), .ref nP, .ref nW, .int (zz ↑rr), .ref nR, .ref nB, .ref mN, .ref mO, .ref mQ, .int (zz dp), .ref mX]), (mW, aI E 10 wn), (mN, aI E 7 nw), (mS, aI E 7 st)] (fun v w1 => v = some (.int (zz (10 * glN wd mm h 1 + glN wd mm h 0))) ∧ ∃ nw2 : Nat → Int, w1 = [(m, ob 7 [.int (zz ↑np), .ref mP, .ref mW, .int (zz ↑nr), .ref mR, .ref mB, .ref mS, .int (zz ↑ac), .ref mA, .int (zz ↑ke), .ref mK, .int (zz ↑se), .ref mE, .ref mT, .int (zz ↑tl), .int (zz ↑at_), .ref mD, .int (zz ↑rp), .ref nP, .ref nW, .int (zz ↑rr), .ref nR, .ref nB, .ref mN, .ref mO, .ref mQ, .int (zz dp), .ref mX]), (mW, aI E 10 wn), (mN, aI E 7 nw2), (mS, aI E 7 st)]) := by
  show RR E mX7_drift (d + 3) 0 0 0 [(0, .ref m), (1, .int (zz ↑mm))] [] [(m, ob 7 [.int (zz ↑np), .ref mP, .ref mW, .int (zz ↑nr), .ref mR, .ref mB, .ref mS, .int (zz ↑ac), .ref mA, .int (zz ↑ke), .ref mK, .int (zz ↑se), .ref mE, .ref mT, .int (zz ↑tl), .int (zz ↑at_), .ref mD, .int (zz ↑rp), .ref nP, .ref nW, .int (zz ↑rr), .ref nR, .ref nB, .ref mN, .ref mO, .ref mQ, .int (zz dp), .ref mX]), (mW, aI E 10 wn), (mN, aI E 7 nw), (mS, aI E 7 st)] (fun v w1 => v = some (.int (zz (10 * glN wd mm h 1 + glN wd mm h 0))) ∧ ∃ nw2 : Nat → Int, w1 = [(m, ob 7 [.int (zz ↑np), .ref mP, .ref mW, .int (zz ↑nr), .ref mR, .ref mB, .ref mS, .int (zz ↑ac), .ref mA, .int (zz ↑ke), .ref mK, .int (zz ↑se), .ref mE, .ref mT, .int (zz ↑tl), .int (zz ↑at_), .ref mD, .int (zz ↑rp), .ref nP, .ref nW, .int (zz ↑rr), .ref nR, .ref nB, .ref mN, .ref mO, .ref mQ, .int (zz dp), .ref mX]), (mW, aI E 10 wn), (mN, aI E 7 nw2), (mS, aI E 7 st)])
  have hp := hP.ok hpc
  have hr := hRo.ok hrc
  have hn := hpc.1
  have hr1 := hrc.1
  have hs := hA.ok ho hv
  obtain ⟨o0, o1, o2, o3, o5, o6⟩ := id ho
  obtain ⟨e0, e1, e2, e3, e4, e5, e6⟩ := hA.all
  have lp : ∀ (n i : Nat) (f1 g1 : Nat → Int), i + n = mm → mOK np f1 → AG 6 f1 g1 → glN wd n g1 = glN wd mm h → RR E mX7_drift (d + 3) 0 0 32 [(0, .ref m), (1, .int (zz ↑mm)), (2, .int (zz ↑i))] [] [(m, ob 7 [.int (zz ↑np), .ref mP, .ref mW, .int (zz ↑nr), .ref mR, .ref mB, .ref mS, .int (zz ↑ac), .ref mA, .int (zz ↑ke), .ref mK, .int (zz ↑se), .ref mE, .ref mT, .int (zz ↑tl), .int (zz ↑at_), .ref mD, .int (zz ↑rp), .ref nP, .ref nW, .int (zz ↑rr), .ref nR, .ref nB, .ref mN, .ref mO, .ref mQ, .int (zz dp), .ref mX]), (mW, aI E 10 wn), (mN, aI E 7 f1), (mS, aI E 7 st)] (fun v w1 => v = some (.int (zz (10 * glN wd mm h 1 + glN wd mm h 0))) ∧ ∃ nw2 : Nat → Int, w1 = [(m, ob 7 [.int (zz ↑np), .ref mP, .ref mW, .int (zz ↑nr), .ref mR, .ref mB, .ref mS, .int (zz ↑ac), .ref mA, .int (zz ↑ke), .ref mK, .int (zz ↑se), .ref mE, .ref mT, .int (zz ↑tl), .int (zz ↑at_), .ref mD, .int (zz ↑rp), .ref nP, .ref nW, .int (zz ↑rr), .ref nR, .ref nB, .ref mN, .ref mO, .ref mQ, .int (zz dp), .ref mX]), (mW, aI E 10 wn), (mN, aI E 7 nw2), (mS, aI E 7 st)]) := by
    intro n
    induction n with
    | zero =>
      intro i f1 g1 h1 h2 h3 h4
      rw [glN] at h4
      have z0 := h3 0 (by omega)
      have z1 := h3 1 (by omega)
      refine rr_iload_n 2 dX7_drift_32 rfl ?_
      refine rr_iload_n 1 dX7_drift_33 rfl ?_
      refine rr_icmp_ge 47 dX7_drift_34 (by decide) (by omega) (by omega) (fun c_1 => ?_) (fun c_1 => ?_)
      · skip
        refine rr_aload_n 0 dX7_drift_47 rfl ?_
        refine rr_callFi (ws2 := [(m, ob 7 [.int (zz ↑np), .ref mP, .ref mW, .int (zz ↑nr), .ref mR, .ref mB, .ref mS, .int (zz ↑ac), .ref mA, .int (zz ↑ke), .ref mK, .int (zz ↑se), .ref mE, .ref mT, .int (zz ↑tl), .int (zz ↑at_), .ref mD, .int (zz ↑rp), .ref nP, .ref nW, .int (zz ↑rr), .ref nR, .ref nB, .ref mN, .ref mO, .ref mQ, .int (zz dp), .ref mX]), (mW, aI E 10 wn), (mN, aI E 7 f1), (mS, aI E 7 st)]) (wr := [(mW, aI E 10 wn), (mS, aI E 7 st)]) (call_V (q0 := 0) kX7_193 (c_place E (d + 2) m mP mW mR mB mS mA mK mE mT mD nP nW nR nB mN mO mQ mX np nr ac ke se tl at_ rp rr dp f1) rfl rfl rfl rfl (by omega) (by decide) (Nat.le_of_ble_eq_true rfl) (Nat.le_of_ble_eq_true rfl) dX7_drift_48) [0, 2] [1, 3] [2, 0, 3, 1] rfl rfl rfl rfl rfl rfl rfl ?_
        exact rr_iret dX7_drift_51 rfl rfl ⟨congrArg (fun z => some (Value.int (zz z))) (by rw [← h4, z0, z1]), f1, rfl⟩
      · skip
        exfalso; omega
    | succ n ih =>
      intro i f1 g1 h1 h2 h3 h4
      rw [glN] at h4
      refine rr_iload_n 2 dX7_drift_32 rfl ?_
      refine rr_iload_n 1 dX7_drift_33 rfl ?_
      refine rr_icmp_ge 47 dX7_drift_34 (by decide) (by omega) (by omega) (fun c_2 => ?_) (fun c_2 => ?_)
      · skip
        exfalso; omega
      · skip
        refine rr_aload_n 0 dX7_drift_37 rfl ?_
        have ke_3 : flF wn f1 2 = f1 2 := rfl
        have ke_4 : flF wn f1 3 = f1 3 := rfl
        have ke_5 : flF wn f1 5 = f1 5 := rfl
        have ke_6 : flF wn f1 6 = f1 6 := rfl
        refine rr_callFv (ws2 := [(m, ob 7 [.int (zz ↑np), .ref mP, .ref mW, .int (zz ↑nr), .ref mR, .ref mB, .ref mS, .int (zz ↑ac), .ref mA, .int (zz ↑ke), .ref mK, .int (zz ↑se), .ref mE, .ref mT, .int (zz ↑tl), .int (zz ↑at_), .ref mD, .int (zz ↑rp), .ref nP, .ref nW, .int (zz ↑rr), .ref nR, .ref nB, .ref mN, .ref mO, .ref mQ, .int (zz dp), .ref mX]), (mW, aI E 10 wn), (mN, aI E 7 (flF wn f1)), (mS, aI E 7 st)]) (wr := [(mS, aI E 7 st)]) (call_V (q0 := 0) kX7_174 (c_flies E (d + 0) m mP mW mR mB mS mA mK mE mT mD nP nW nR nB mN mO mQ mX np nr ac ke se tl at_ rp rr dp pg wn f1 hp h2) rfl rfl rfl rfl (by omega) (by decide) (Nat.le_of_ble_eq_true rfl) (Nat.le_of_ble_eq_true rfl) dX7_drift_38) [0, 1, 2] [3] [1, 2, 3, 0] rfl rfl rfl rfl rfl rfl rfl ?_
        refine rr_iinc (lv2 := [(0, .ref m), (1, .int (zz ↑mm)), (2, .int (zz (↑(i + 1))))]) 2 dX7_drift_41 rfl (by decide) rfl ?_
        refine rr_goto 32 dX7_drift_44 (by decide) ?_
        exact ih (i + 1) (flF wn f1) (glF wd g1) (by omega) (flF_mok h2) (fl6_rel hP h3) h4
  refine rr_iload_n 1 dX7_drift_0 rfl ?_
  refine rr_iconst dX7_drift_1 ?_
  refine rr_bipush dX7_drift_2 (by decide) ?_
  refine rr_callFi (ws2 := [(m, ob 7 [.int (zz ↑np), .ref mP, .ref mW, .int (zz ↑nr), .ref mR, .ref mB, .ref mS, .int (zz ↑ac), .ref mA, .int (zz ↑ke), .ref mK, .int (zz ↑se), .ref mE, .ref mT, .int (zz ↑tl), .int (zz ↑at_), .ref mD, .int (zz ↑rp), .ref nP, .ref nW, .int (zz ↑rr), .ref nR, .ref nB, .ref mN, .ref mO, .ref mQ, .int (zz dp), .ref mX]), (mW, aI E 10 wn), (mN, aI E 7 nw), (mS, aI E 7 st)]) (wr := [(m, ob 7 [.int (zz ↑np), .ref mP, .ref mW, .int (zz ↑nr), .ref mR, .ref mB, .ref mS, .int (zz ↑ac), .ref mA, .int (zz ↑ke), .ref mK, .int (zz ↑se), .ref mE, .ref mT, .int (zz ↑tl), .int (zz ↑at_), .ref mD, .int (zz ↑rp), .ref nP, .ref nW, .int (zz ↑rr), .ref nR, .ref nB, .ref mN, .ref mO, .ref mQ, .int (zz dp), .ref mX]), (mW, aI E 10 wn), (mN, aI E 7 nw), (mS, aI E 7 st)]) (call_S kX7_88 (c_in E (d + 2) ↑mm 1 20 (by omega) (by omega) (by omega)) rfl (by omega) (by decide) (Nat.le_of_ble_eq_true rfl) (Nat.le_of_ble_eq_true rfl) dX7_drift_4) [] [0, 1, 2, 3] [0, 1, 2, 3] rfl rfl rfl rfl rfl rfl rfl ?_
  refine rr_if_neD 12 dX7_drift_7 (by decide) (fun c_7 => ?_) (fun c_7 => ?_)
  · skip
    refine rr_aload_n 0 dX7_drift_12 rfl ?_
    refine rr_aload_n 0 dX7_drift_13 rfl ?_
    refine rr_get fX7_22 0 rfl rfl dX7_drift_14 ?_
    have ke_8 : cpI nw 0 st 0 7 0 = st 0 := rfl
    have ke_9 : cpI nw 0 st 0 7 1 = st 1 := rfl
    have ke_10 : cpI nw 0 st 0 7 2 = st 2 := rfl
    have ke_11 : cpI nw 0 st 0 7 3 = st 3 := rfl
    have ke_12 : cpI nw 0 st 0 7 4 = st 4 := rfl
    have ke_13 : cpI nw 0 st 0 7 5 = st 5 := rfl
    have ke_14 : cpI nw 0 st 0 7 6 = st 6 := rfl
    have hA15 : AG 7 (cpI nw 0 st 0 7) (amF h) := cp7 hA
    have ho15 : hOK h := ho
    have hv15 : hV np h := hv
    have hm15 : mOK np (cpI nw 0 st 0 7) := hA15.ok ho15 hv15
    obtain ⟨ea15, eb15, ec15, ed15, ee15, ef15, eg15⟩ := hA15.all
    obtain ⟨na15, nb15, nc15, nd15, nf15, ng15⟩ := id hm15
    refine rr_callFv (ws2 := [(m, ob 7 [.int (zz ↑np), .ref mP, .ref mW, .int (zz ↑nr), .ref mR, .ref mB, .ref mS, .int (zz ↑ac), .ref mA, .int (zz ↑ke), .ref mK, .int (zz ↑se), .ref mE, .ref mT, .int (zz ↑tl), .int (zz ↑at_), .ref mD, .int (zz ↑rp), .ref nP, .ref nW, .int (zz ↑rr), .ref nR, .ref nB, .ref mN, .ref mO, .ref mQ, .int (zz dp), .ref mX]), (mW, aI E 10 wn), (mN, aI E 7 (cpI nw 0 st 0 7)), (mS, aI E 7 st)]) (wr := [(mW, aI E 10 wn)]) (call_V (q0 := 0) kX7_180 (c_from E (d + 1) m mP mW mR mB mS mA mK mE mT mD nP nW nR nB mN mO mQ mX np nr ac ke se tl at_ rp rr dp mS nw st) rfl rfl rfl rfl (by omega) (by decide) (Nat.le_of_ble_eq_true rfl) (Nat.le_of_ble_eq_true rfl) dX7_drift_17) [0, 2, 3] [1] [1, 0, 2, 3] rfl rfl rfl rfl rfl rfl rfl ?_
    refine rr_aload_n 0 dX7_drift_20 rfl ?_
    refine rr_callFi (ws2 := [(m, ob 7 [.int (zz ↑np), .ref mP, .ref mW, .int (zz ↑nr), .ref mR, .ref mB, .ref mS, .int (zz ↑ac), .ref mA, .int (zz ↑ke), .ref mK, .int (zz ↑se), .ref mE, .ref mT, .int (zz ↑tl), .int (zz ↑at_), .ref mD, .int (zz ↑rp), .ref nP, .ref nW, .int (zz ↑rr), .ref nR, .ref nB, .ref mN, .ref mO, .ref mQ, .int (zz dp), .ref mX]), (mW, aI E 10 wn), (mN, aI E 7 (cpI nw 0 st 0 7)), (mS, aI E 7 st)]) (wr := [(mW, aI E 10 wn), (mS, aI E 7 st)]) (call_V (q0 := 0) kX7_151 (c_MisDown E (d + 2) m mP mW mR mB mS mA mK mE mT mD nP nW nR nB mN mO mQ mX np nr ac ke se tl at_ rp rr dp (cpI nw 0 st 0 7) (by omega)) rfl rfl rfl rfl (by omega) (by decide) (Nat.le_of_ble_eq_true rfl) (Nat.le_of_ble_eq_true rfl) dX7_drift_21) [0, 2] [1, 3] [2, 0, 3, 1] rfl rfl rfl rfl rfl rfl rfl ?_
    refine rr_if_eqD 30 dX7_drift_24 (by decide) (fun c_16 => ?_) (fun c_16 => ?_)
    · skip
      refine rr_iconst dX7_drift_30 ?_
      refine rr_istore_n (lv2 := [(0, .ref m), (1, .int (zz ↑mm)), (2, .int (zz 0))]) dX7_drift_31 (by decide) rfl ?_
      exact lp mm 0 (cpI nw 0 st 0 7) h (by omega) (AG.ok (cp7 hA) ho hv) (AG.six (cp7 hA)) rfl
    · skip
      exfalso; omega
  · skip
    exfalso; omega
set_option maxRecDepth 100000 in
set_option maxHeartbeats 400000 in
theorem c_Mseen_bad (E : Ev) (d : Nat) (m mP mW mR mB mS mA mK mE mT mD nP nW nR nB mN mO mQ mX : Nat) (np nr ac ke se tl at_ rp rr : Nat) (dp : Int) (y u v : Int) (gy : -2147483648 ≤ y ∧ y < 2147483648) (gu : -2147483648 ≤ u ∧ u < 2147483648) (gv : -2147483648 ≤ v ∧ v < 2147483648) (hn : np ≤ 7) (hc : ¬ ((0 ≤ y ∧ y < (np : Int)) ∧ (0 ≤ u ∧ u ≤ 3) ∧ 0 ≤ v ∧ v ≤ 36)) : SP E mX7_seen (d + 2) 0 0 [.ref m, .int (zz y), .int (zz u), .int (zz v)] [(m, ob 7 [.int (zz ↑np), .ref mP, .ref mW, .int (zz ↑nr), .ref mR, .ref mB, .ref mS, .int (zz ↑ac), .ref mA, .int (zz ↑ke), .ref mK, .int (zz ↑se), .ref mE, .ref mT, .int (zz ↑tl), .int (zz ↑at_), .ref mD, .int (zz ↑rp), .ref nP, .ref nW, .int (zz ↑rr), .ref nR, .ref nB, .ref mN, .ref mO, .ref mQ, .int (zz dp), .ref mX])] (FP (some (.int (zz (-1)))) [(m, ob 7 [.int (zz ↑np), .ref mP, .ref mW, .int (zz ↑nr), .ref mR, .ref mB, .ref mS, .int (zz ↑ac), .ref mA, .int (zz ↑ke), .ref mK, .int (zz ↑se), .ref mE, .ref mT, .int (zz ↑tl), .int (zz ↑at_), .ref mD, .int (zz ↑rp), .ref nP, .ref nW, .int (zz ↑rr), .ref nR, .ref nB, .ref mN, .ref mO, .ref mQ, .int (zz dp), .ref mX])]) := by
  show RR E mX7_seen (d + 2) 0 0 0 [(0, .ref m), (1, .int (zz y)), (2, .int (zz u)), (3, .int (zz v))] [] [(m, ob 7 [.int (zz ↑np), .ref mP, .ref mW, .int (zz ↑nr), .ref mR, .ref mB, .ref mS, .int (zz ↑ac), .ref mA, .int (zz ↑ke), .ref mK, .int (zz ↑se), .ref mE, .ref mT, .int (zz ↑tl), .int (zz ↑at_), .ref mD, .int (zz ↑rp), .ref nP, .ref nW, .int (zz ↑rr), .ref nR, .ref nB, .ref mN, .ref mO, .ref mQ, .int (zz dp), .ref mX])] (FP (some (.int (zz (-1)))) [(m, ob 7 [.int (zz ↑np), .ref mP, .ref mW, .int (zz ↑nr), .ref mR, .ref mB, .ref mS, .int (zz ↑ac), .ref mA, .int (zz ↑ke), .ref mK, .int (zz ↑se), .ref mE, .ref mT, .int (zz ↑tl), .int (zz ↑at_), .ref mD, .int (zz ↑rp), .ref nP, .ref nW, .int (zz ↑rr), .ref nR, .ref nB, .ref mN, .ref mO, .ref mQ, .int (zz dp), .ref mX])])
  refine rr_aload_n 0 dX7_seen_0 rfl ?_
  refine rr_iload_n 1 dX7_seen_1 rfl ?_
  refine rr_callFi (ws2 := [(m, ob 7 [.int (zz ↑np), .ref mP, .ref mW, .int (zz ↑nr), .ref mR, .ref mB, .ref mS, .int (zz ↑ac), .ref mA, .int (zz ↑ke), .ref mK, .int (zz ↑se), .ref mE, .ref mT, .int (zz ↑tl), .int (zz ↑at_), .ref mD, .int (zz ↑rp), .ref nP, .ref nW, .int (zz ↑rr), .ref nR, .ref nB, .ref mN, .ref mO, .ref mQ, .int (zz dp), .ref mX])]) (wr := []) (call_V (q0 := 0) kX7_177 (c_MisPeg E (d + 0) m mP mW mR mB mS mA mK mE mT mD nP nW nR nB mN mO mQ mX np nr ac ke se tl at_ rp rr dp y (by omega) (by omega)) rfl rfl rfl rfl (by omega) (by decide) (Nat.le_of_ble_eq_true rfl) (Nat.le_of_ble_eq_true rfl) dX7_seen_2) [0] [] [0] rfl rfl rfl rfl rfl rfl rfl ?_
  refine rr_if_eqD 27 dX7_seen_5 (by decide) (fun c_1 => ?_) (fun c_1 => ?_)
  · skip
    refine rr_iconst dX7_seen_27 ?_
    exact rr_iret dX7_seen_28 rfl rfl ⟨rfl, rfl⟩
  · skip
    refine rr_iload_n 2 dX7_seen_8 rfl ?_
    refine rr_iconst dX7_seen_9 ?_
    refine rr_iconst dX7_seen_10 ?_
    refine rr_callFi (ws2 := [(m, ob 7 [.int (zz ↑np), .ref mP, .ref mW, .int (zz ↑nr), .ref mR, .ref mB, .ref mS, .int (zz ↑ac), .ref mA, .int (zz ↑ke), .ref mK, .int (zz ↑se), .ref mE, .ref mT, .int (zz ↑tl), .int (zz ↑at_), .ref mD, .int (zz ↑rp), .ref nP, .ref nW, .int (zz ↑rr), .ref nR, .ref nB, .ref mN, .ref mO, .ref mQ, .int (zz dp), .ref mX])]) (wr := [(m, ob 7 [.int (zz ↑np), .ref mP, .ref mW, .int (zz ↑nr), .ref mR, .ref mB, .ref mS, .int (zz ↑ac), .ref mA, .int (zz ↑ke), .ref mK, .int (zz ↑se), .ref mE, .ref mT, .int (zz ↑tl), .int (zz ↑at_), .ref mD, .int (zz ↑rp), .ref nP, .ref nW, .int (zz ↑rr), .ref nR, .ref nB, .ref mN, .ref mO, .ref mQ, .int (zz dp), .ref mX])]) (call_S kX7_88 (c_in E (d + 1) u 0 3 (by omega) (by omega) (by omega)) rfl (by omega) (by decide) (Nat.le_of_ble_eq_true rfl) (Nat.le_of_ble_eq_true rfl) dX7_seen_11) [] [0] [0] rfl rfl rfl rfl rfl rfl rfl ?_
    refine rr_if_eqD 27 dX7_seen_14 (by decide) (fun c_2 => ?_) (fun c_2 => ?_)
    · skip
      refine rr_iconst dX7_seen_27 ?_
      exact rr_iret dX7_seen_28 rfl rfl ⟨rfl, rfl⟩
    · skip
      refine rr_iload_n 3 dX7_seen_17 rfl ?_
      refine rr_iconst dX7_seen_18 ?_
      refine rr_bipush dX7_seen_19 (by decide) ?_
      refine rr_callFi (ws2 := [(m, ob 7 [.int (zz ↑np), .ref mP, .ref mW, .int (zz ↑nr), .ref mR, .ref mB, .ref mS, .int (zz ↑ac), .ref mA, .int (zz ↑ke), .ref mK, .int (zz ↑se), .ref mE, .ref mT, .int (zz ↑tl), .int (zz ↑at_), .ref mD, .int (zz ↑rp), .ref nP, .ref nW, .int (zz ↑rr), .ref nR, .ref nB, .ref mN, .ref mO, .ref mQ, .int (zz dp), .ref mX])]) (wr := [(m, ob 7 [.int (zz ↑np), .ref mP, .ref mW, .int (zz ↑nr), .ref mR, .ref mB, .ref mS, .int (zz ↑ac), .ref mA, .int (zz ↑ke), .ref mK, .int (zz ↑se), .ref mE, .ref mT, .int (zz ↑tl), .int (zz ↑at_), .ref mD, .int (zz ↑rp), .ref nP, .ref nW, .int (zz ↑rr), .ref nR, .ref nB, .ref mN, .ref mO, .ref mQ, .int (zz dp), .ref mX])]) (call_S kX7_88 (c_in E (d + 1) v 0 36 (by omega) (by omega) (by omega)) rfl (by omega) (by decide) (Nat.le_of_ble_eq_true rfl) (Nat.le_of_ble_eq_true rfl) dX7_seen_21) [] [0] [0] rfl rfl rfl rfl rfl rfl rfl ?_
      refine rr_if_neD 29 dX7_seen_24 (by decide) (fun c_3 => ?_) (fun c_3 => ?_)
      · skip
        exfalso; omega
      · skip
        refine rr_iconst dX7_seen_27 ?_
        exact rr_iret dX7_seen_28 rfl rfl ⟨rfl, rfl⟩
set_option maxRecDepth 100000 in
set_option maxHeartbeats 400000 in
theorem c_Mseen_full (E : Ev) (d : Nat) (m mP mW mR mB mS mA mK mE mT mD nP nW nR nB mN mO mQ mX : Nat) (np nr ac ke se tl at_ rp rr : Nat) (dp : Int) (y u v : Int) (hn : np ≤ 7) (hc : (0 ≤ y ∧ y < (np : Int)) ∧ (0 ≤ u ∧ u ≤ 3) ∧ 0 ≤ v ∧ v ≤ 36) (hs : se = 6) : SP E mX7_seen (d + 2) 0 0 [.ref m, .int (zz y), .int (zz u), .int (zz v)] [(m, ob 7 [.int (zz ↑np), .ref mP, .ref mW, .int (zz ↑nr), .ref mR, .ref mB, .ref mS, .int (zz ↑ac), .ref mA, .int (zz ↑ke), .ref mK, .int (zz ↑se), .ref mE, .ref mT, .int (zz ↑tl), .int (zz ↑at_), .ref mD, .int (zz ↑rp), .ref nP, .ref nW, .int (zz ↑rr), .ref nR, .ref nB, .ref mN, .ref mO, .ref mQ, .int (zz dp), .ref mX])] (FP (some (.int (zz (-3)))) [(m, ob 7 [.int (zz ↑np), .ref mP, .ref mW, .int (zz ↑nr), .ref mR, .ref mB, .ref mS, .int (zz ↑ac), .ref mA, .int (zz ↑ke), .ref mK, .int (zz ↑se), .ref mE, .ref mT, .int (zz ↑tl), .int (zz ↑at_), .ref mD, .int (zz ↑rp), .ref nP, .ref nW, .int (zz ↑rr), .ref nR, .ref nB, .ref mN, .ref mO, .ref mQ, .int (zz dp), .ref mX])]) := by
  show RR E mX7_seen (d + 2) 0 0 0 [(0, .ref m), (1, .int (zz y)), (2, .int (zz u)), (3, .int (zz v))] [] [(m, ob 7 [.int (zz ↑np), .ref mP, .ref mW, .int (zz ↑nr), .ref mR, .ref mB, .ref mS, .int (zz ↑ac), .ref mA, .int (zz ↑ke), .ref mK, .int (zz ↑se), .ref mE, .ref mT, .int (zz ↑tl), .int (zz ↑at_), .ref mD, .int (zz ↑rp), .ref nP, .ref nW, .int (zz ↑rr), .ref nR, .ref nB, .ref mN, .ref mO, .ref mQ, .int (zz dp), .ref mX])] (FP (some (.int (zz (-3)))) [(m, ob 7 [.int (zz ↑np), .ref mP, .ref mW, .int (zz ↑nr), .ref mR, .ref mB, .ref mS, .int (zz ↑ac), .ref mA, .int (zz ↑ke), .ref mK, .int (zz ↑se), .ref mE, .ref mT, .int (zz ↑tl), .int (zz ↑at_), .ref mD, .int (zz ↑rp), .ref nP, .ref nW, .int (zz ↑rr), .ref nR, .ref nB, .ref mN, .ref mO, .ref mQ, .int (zz dp), .ref mX])])
  refine rr_aload_n 0 dX7_seen_0 rfl ?_
  refine rr_iload_n 1 dX7_seen_1 rfl ?_
  refine rr_callFi (ws2 := [(m, ob 7 [.int (zz ↑np), .ref mP, .ref mW, .int (zz ↑nr), .ref mR, .ref mB, .ref mS, .int (zz ↑ac), .ref mA, .int (zz ↑ke), .ref mK, .int (zz ↑se), .ref mE, .ref mT, .int (zz ↑tl), .int (zz ↑at_), .ref mD, .int (zz ↑rp), .ref nP, .ref nW, .int (zz ↑rr), .ref nR, .ref nB, .ref mN, .ref mO, .ref mQ, .int (zz dp), .ref mX])]) (wr := []) (call_V (q0 := 0) kX7_177 (c_MisPeg E (d + 0) m mP mW mR mB mS mA mK mE mT mD nP nW nR nB mN mO mQ mX np nr ac ke se tl at_ rp rr dp y (by omega) (by omega)) rfl rfl rfl rfl (by omega) (by decide) (Nat.le_of_ble_eq_true rfl) (Nat.le_of_ble_eq_true rfl) dX7_seen_2) [0] [] [0] rfl rfl rfl rfl rfl rfl rfl ?_
  refine rr_if_eqD 27 dX7_seen_5 (by decide) (fun c_1 => ?_) (fun c_1 => ?_)
  · skip
    exfalso; omega
  · skip
    refine rr_iload_n 2 dX7_seen_8 rfl ?_
    refine rr_iconst dX7_seen_9 ?_
    refine rr_iconst dX7_seen_10 ?_
    refine rr_callFi (ws2 := [(m, ob 7 [.int (zz ↑np), .ref mP, .ref mW, .int (zz ↑nr), .ref mR, .ref mB, .ref mS, .int (zz ↑ac), .ref mA, .int (zz ↑ke), .ref mK, .int (zz ↑se), .ref mE, .ref mT, .int (zz ↑tl), .int (zz ↑at_), .ref mD, .int (zz ↑rp), .ref nP, .ref nW, .int (zz ↑rr), .ref nR, .ref nB, .ref mN, .ref mO, .ref mQ, .int (zz dp), .ref mX])]) (wr := [(m, ob 7 [.int (zz ↑np), .ref mP, .ref mW, .int (zz ↑nr), .ref mR, .ref mB, .ref mS, .int (zz ↑ac), .ref mA, .int (zz ↑ke), .ref mK, .int (zz ↑se), .ref mE, .ref mT, .int (zz ↑tl), .int (zz ↑at_), .ref mD, .int (zz ↑rp), .ref nP, .ref nW, .int (zz ↑rr), .ref nR, .ref nB, .ref mN, .ref mO, .ref mQ, .int (zz dp), .ref mX])]) (call_S kX7_88 (c_in E (d + 1) u 0 3 (by omega) (by omega) (by omega)) rfl (by omega) (by decide) (Nat.le_of_ble_eq_true rfl) (Nat.le_of_ble_eq_true rfl) dX7_seen_11) [] [0] [0] rfl rfl rfl rfl rfl rfl rfl ?_
    refine rr_if_eqD 27 dX7_seen_14 (by decide) (fun c_2 => ?_) (fun c_2 => ?_)
    · skip
      exfalso; omega
    · skip
      refine rr_iload_n 3 dX7_seen_17 rfl ?_
      refine rr_iconst dX7_seen_18 ?_
      refine rr_bipush dX7_seen_19 (by decide) ?_
      refine rr_callFi (ws2 := [(m, ob 7 [.int (zz ↑np), .ref mP, .ref mW, .int (zz ↑nr), .ref mR, .ref mB, .ref mS, .int (zz ↑ac), .ref mA, .int (zz ↑ke), .ref mK, .int (zz ↑se), .ref mE, .ref mT, .int (zz ↑tl), .int (zz ↑at_), .ref mD, .int (zz ↑rp), .ref nP, .ref nW, .int (zz ↑rr), .ref nR, .ref nB, .ref mN, .ref mO, .ref mQ, .int (zz dp), .ref mX])]) (wr := [(m, ob 7 [.int (zz ↑np), .ref mP, .ref mW, .int (zz ↑nr), .ref mR, .ref mB, .ref mS, .int (zz ↑ac), .ref mA, .int (zz ↑ke), .ref mK, .int (zz ↑se), .ref mE, .ref mT, .int (zz ↑tl), .int (zz ↑at_), .ref mD, .int (zz ↑rp), .ref nP, .ref nW, .int (zz ↑rr), .ref nR, .ref nB, .ref mN, .ref mO, .ref mQ, .int (zz dp), .ref mX])]) (call_S kX7_88 (c_in E (d + 1) v 0 36 (by omega) (by omega) (by omega)) rfl (by omega) (by decide) (Nat.le_of_ble_eq_true rfl) (Nat.le_of_ble_eq_true rfl) dX7_seen_21) [] [0] [0] rfl rfl rfl rfl rfl rfl rfl ?_
      refine rr_if_neD 29 dX7_seen_24 (by decide) (fun c_3 => ?_) (fun c_3 => ?_)
      · skip
        refine rr_aload_n 0 dX7_seen_29 rfl ?_
        refine rr_get fX7_148 0 rfl rfl dX7_seen_30 ?_
        refine rr_bipush dX7_seen_33 (by decide) ?_
        refine rr_icmp_ne 41 dX7_seen_35 (by decide) (by omega) (by omega) (fun c_4 => ?_) (fun c_4 => ?_)
        · skip
          exfalso; omega
        · skip
          refine rr_bipush dX7_seen_38 (by decide) ?_
          exact rr_iret dX7_seen_40 rfl rfl ⟨rfl, rfl⟩
      · skip
        exfalso; omega
set_option maxRecDepth 100000 in
set_option maxHeartbeats 400000 in
theorem c_Mseen_y (E : Ev) (d : Nat) (m mP mW mR mB mS mA mK mE mT mD nP nW nR nB mN mO mQ mX : Nat) (np nr ac ke se tl at_ rp rr : Nat) (dp : Int) (sn : Nat → Int) (y u v : Int) (hn : np ≤ 7) (hc : (0 ≤ y ∧ y < (np : Int)) ∧ (0 ≤ u ∧ u ≤ 3) ∧ 0 ≤ v ∧ v ≤ 36) (hs : se < 6) : SP E mX7_seen (d + 2) 0 0 [.ref m, .int (zz y), .int (zz u), .int (zz v)] [(m, ob 7 [.int (zz ↑np), .ref mP, .ref mW, .int (zz ↑nr), .ref mR, .ref mB, .ref mS, .int (zz ↑ac), .ref mA, .int (zz ↑ke), .ref mK, .int (zz ↑se), .ref mE, .ref mT, .int (zz ↑tl), .int (zz ↑at_), .ref mD, .int (zz ↑rp), .ref nP, .ref nW, .int (zz ↑rr), .ref nR, .ref nB, .ref mN, .ref mO, .ref mQ, .int (zz dp), .ref mX]), (mE, aI E 18 sn)] (FP (some (.int (zz (↑(se + 1))))) [(m, ob 7 [.int (zz ↑np), .ref mP, .ref mW, .int (zz ↑nr), .ref mR, .ref mB, .ref mS, .int (zz ↑ac), .ref mA, .int (zz ↑ke), .ref mK, .int (zz (↑(se + 1))), .ref mE, .ref mT, .int (zz ↑tl), .int (zz ↑at_), .ref mD, .int (zz ↑rp), .ref nP, .ref nW, .int (zz ↑rr), .ref nR, .ref nB, .ref mN, .ref mO, .ref mQ, .int (zz dp), .ref mX]), (mE, aI E 18 (updI (updI (updI sn (3 * se) y) (3 * se + 1) u) (3 * se + 2) v))]) := by
  show RR E mX7_seen (d + 2) 0 0 0 [(0, .ref m), (1, .int (zz y)), (2, .int (zz u)), (3, .int (zz v))] [] [(m, ob 7 [.int (zz ↑np), .ref mP, .ref mW, .int (zz ↑nr), .ref mR, .ref mB, .ref mS, .int (zz ↑ac), .ref mA, .int (zz ↑ke), .ref mK, .int (zz ↑se), .ref mE, .ref mT, .int (zz ↑tl), .int (zz ↑at_), .ref mD, .int (zz ↑rp), .ref nP, .ref nW, .int (zz ↑rr), .ref nR, .ref nB, .ref mN, .ref mO, .ref mQ, .int (zz dp), .ref mX]), (mE, aI E 18 sn)] (FP (some (.int (zz (↑(se + 1))))) [(m, ob 7 [.int (zz ↑np), .ref mP, .ref mW, .int (zz ↑nr), .ref mR, .ref mB, .ref mS, .int (zz ↑ac), .ref mA, .int (zz ↑ke), .ref mK, .int (zz (↑(se + 1))), .ref mE, .ref mT, .int (zz ↑tl), .int (zz ↑at_), .ref mD, .int (zz ↑rp), .ref nP, .ref nW, .int (zz ↑rr), .ref nR, .ref nB, .ref mN, .ref mO, .ref mQ, .int (zz dp), .ref mX]), (mE, aI E 18 (updI (updI (updI sn (3 * se) y) (3 * se + 1) u) (3 * se + 2) v))])
  refine rr_aload_n 0 dX7_seen_0 rfl ?_
  refine rr_iload_n 1 dX7_seen_1 rfl ?_
  refine rr_callFi (ws2 := [(m, ob 7 [.int (zz ↑np), .ref mP, .ref mW, .int (zz ↑nr), .ref mR, .ref mB, .ref mS, .int (zz ↑ac), .ref mA, .int (zz ↑ke), .ref mK, .int (zz ↑se), .ref mE, .ref mT, .int (zz ↑tl), .int (zz ↑at_), .ref mD, .int (zz ↑rp), .ref nP, .ref nW, .int (zz ↑rr), .ref nR, .ref nB, .ref mN, .ref mO, .ref mQ, .int (zz dp), .ref mX]), (mE, aI E 18 sn)]) (wr := [(mE, aI E 18 sn)]) (call_V (q0 := 0) kX7_177 (c_MisPeg E (d + 0) m mP mW mR mB mS mA mK mE mT mD nP nW nR nB mN mO mQ mX np nr ac ke se tl at_ rp rr dp y (by omega) (by omega)) rfl rfl rfl rfl (by omega) (by decide) (Nat.le_of_ble_eq_true rfl) (Nat.le_of_ble_eq_true rfl) dX7_seen_2) [0] [1] [1, 0] rfl rfl rfl rfl rfl rfl rfl ?_
  refine rr_if_eqD 27 dX7_seen_5 (by decide) (fun c_1 => ?_) (fun c_1 => ?_)
  · skip
    exfalso; omega
  · skip
    refine rr_iload_n 2 dX7_seen_8 rfl ?_
    refine rr_iconst dX7_seen_9 ?_
    refine rr_iconst dX7_seen_10 ?_
    refine rr_callFi (ws2 := [(m, ob 7 [.int (zz ↑np), .ref mP, .ref mW, .int (zz ↑nr), .ref mR, .ref mB, .ref mS, .int (zz ↑ac), .ref mA, .int (zz ↑ke), .ref mK, .int (zz ↑se), .ref mE, .ref mT, .int (zz ↑tl), .int (zz ↑at_), .ref mD, .int (zz ↑rp), .ref nP, .ref nW, .int (zz ↑rr), .ref nR, .ref nB, .ref mN, .ref mO, .ref mQ, .int (zz dp), .ref mX]), (mE, aI E 18 sn)]) (wr := [(m, ob 7 [.int (zz ↑np), .ref mP, .ref mW, .int (zz ↑nr), .ref mR, .ref mB, .ref mS, .int (zz ↑ac), .ref mA, .int (zz ↑ke), .ref mK, .int (zz ↑se), .ref mE, .ref mT, .int (zz ↑tl), .int (zz ↑at_), .ref mD, .int (zz ↑rp), .ref nP, .ref nW, .int (zz ↑rr), .ref nR, .ref nB, .ref mN, .ref mO, .ref mQ, .int (zz dp), .ref mX]), (mE, aI E 18 sn)]) (call_S kX7_88 (c_in E (d + 1) u 0 3 (by omega) (by omega) (by omega)) rfl (by omega) (by decide) (Nat.le_of_ble_eq_true rfl) (Nat.le_of_ble_eq_true rfl) dX7_seen_11) [] [0, 1] [0, 1] rfl rfl rfl rfl rfl rfl rfl ?_
    refine rr_if_eqD 27 dX7_seen_14 (by decide) (fun c_2 => ?_) (fun c_2 => ?_)
    · skip
      exfalso; omega
    · skip
      refine rr_iload_n 3 dX7_seen_17 rfl ?_
      refine rr_iconst dX7_seen_18 ?_
      refine rr_bipush dX7_seen_19 (by decide) ?_
      refine rr_callFi (ws2 := [(m, ob 7 [.int (zz ↑np), .ref mP, .ref mW, .int (zz ↑nr), .ref mR, .ref mB, .ref mS, .int (zz ↑ac), .ref mA, .int (zz ↑ke), .ref mK, .int (zz ↑se), .ref mE, .ref mT, .int (zz ↑tl), .int (zz ↑at_), .ref mD, .int (zz ↑rp), .ref nP, .ref nW, .int (zz ↑rr), .ref nR, .ref nB, .ref mN, .ref mO, .ref mQ, .int (zz dp), .ref mX]), (mE, aI E 18 sn)]) (wr := [(m, ob 7 [.int (zz ↑np), .ref mP, .ref mW, .int (zz ↑nr), .ref mR, .ref mB, .ref mS, .int (zz ↑ac), .ref mA, .int (zz ↑ke), .ref mK, .int (zz ↑se), .ref mE, .ref mT, .int (zz ↑tl), .int (zz ↑at_), .ref mD, .int (zz ↑rp), .ref nP, .ref nW, .int (zz ↑rr), .ref nR, .ref nB, .ref mN, .ref mO, .ref mQ, .int (zz dp), .ref mX]), (mE, aI E 18 sn)]) (call_S kX7_88 (c_in E (d + 1) v 0 36 (by omega) (by omega) (by omega)) rfl (by omega) (by decide) (Nat.le_of_ble_eq_true rfl) (Nat.le_of_ble_eq_true rfl) dX7_seen_21) [] [0, 1] [0, 1] rfl rfl rfl rfl rfl rfl rfl ?_
      refine rr_if_neD 29 dX7_seen_24 (by decide) (fun c_3 => ?_) (fun c_3 => ?_)
      · skip
        refine rr_aload_n 0 dX7_seen_29 rfl ?_
        refine rr_get fX7_148 0 rfl rfl dX7_seen_30 ?_
        refine rr_bipush dX7_seen_33 (by decide) ?_
        refine rr_icmp_ne 41 dX7_seen_35 (by decide) (by omega) (by omega) (fun c_4 => ?_) (fun c_4 => ?_)
        · skip
          refine rr_aload_n 0 dX7_seen_41 rfl ?_
          refine rr_get fX7_31 0 rfl rfl dX7_seen_42 ?_
          refine rr_iconst dX7_seen_45 ?_
          refine rr_aload_n 0 dX7_seen_46 rfl ?_
          refine rr_get fX7_148 0 rfl rfl dX7_seen_47 ?_
          refine rr_imul dX7_seen_50 ?_
          refine rr_iload_n 1 dX7_seen_51 rfl ?_
          refine rr_iast (ws2 := [(m, ob 7 [.int (zz ↑np), .ref mP, .ref mW, .int (zz ↑nr), .ref mR, .ref mB, .ref mS, .int (zz ↑ac), .ref mA, .int (zz ↑ke), .ref mK, .int (zz ↑se), .ref mE, .ref mT, .int (zz ↑tl), .int (zz ↑at_), .ref mD, .int (zz ↑rp), .ref nP, .ref nW, .int (zz ↑rr), .ref nR, .ref nB, .ref mN, .ref mO, .ref mQ, .int (zz dp), .ref mX]), (mE, aI E 18 (updI sn (3 * se) y))]) 1 (3 * se) rfl (by omega) (by omega) (by omega) rfl dX7_seen_52 ?_
          refine rr_aload_n 0 dX7_seen_53 rfl ?_
          refine rr_get fX7_31 0 rfl rfl dX7_seen_54 ?_
          refine rr_iconst dX7_seen_57 ?_
          refine rr_aload_n 0 dX7_seen_58 rfl ?_
          refine rr_get fX7_148 0 rfl rfl dX7_seen_59 ?_
          refine rr_imul dX7_seen_62 ?_
          refine rr_iconst dX7_seen_63 ?_
          refine rr_iadd dX7_seen_64 ?_
          refine rr_iload_n 2 dX7_seen_65 rfl ?_
          refine rr_iast (ws2 := [(m, ob 7 [.int (zz ↑np), .ref mP, .ref mW, .int (zz ↑nr), .ref mR, .ref mB, .ref mS, .int (zz ↑ac), .ref mA, .int (zz ↑ke), .ref mK, .int (zz ↑se), .ref mE, .ref mT, .int (zz ↑tl), .int (zz ↑at_), .ref mD, .int (zz ↑rp), .ref nP, .ref nW, .int (zz ↑rr), .ref nR, .ref nB, .ref mN, .ref mO, .ref mQ, .int (zz dp), .ref mX]), (mE, aI E 18 (updI (updI sn (3 * se) y) (3 * se + 1) u))]) 1 (3 * se + 1) rfl (by omega) (by omega) (by omega) rfl dX7_seen_66 ?_
          refine rr_aload_n 0 dX7_seen_67 rfl ?_
          refine rr_get fX7_31 0 rfl rfl dX7_seen_68 ?_
          refine rr_iconst dX7_seen_71 ?_
          refine rr_aload_n 0 dX7_seen_72 rfl ?_
          refine rr_get fX7_148 0 rfl rfl dX7_seen_73 ?_
          refine rr_imul dX7_seen_76 ?_
          refine rr_iconst dX7_seen_77 ?_
          refine rr_iadd dX7_seen_78 ?_
          refine rr_iload_n 3 dX7_seen_79 rfl ?_
          refine rr_iast (ws2 := [(m, ob 7 [.int (zz ↑np), .ref mP, .ref mW, .int (zz ↑nr), .ref mR, .ref mB, .ref mS, .int (zz ↑ac), .ref mA, .int (zz ↑ke), .ref mK, .int (zz ↑se), .ref mE, .ref mT, .int (zz ↑tl), .int (zz ↑at_), .ref mD, .int (zz ↑rp), .ref nP, .ref nW, .int (zz ↑rr), .ref nR, .ref nB, .ref mN, .ref mO, .ref mQ, .int (zz dp), .ref mX]), (mE, aI E 18 (updI (updI (updI sn (3 * se) y) (3 * se + 1) u) (3 * se + 2) v))]) 1 (3 * se + 2) rfl (by omega) (by omega) (by omega) rfl dX7_seen_80 ?_
          refine rr_aload_n 0 dX7_seen_81 rfl ?_
          refine rr_dup dX7_seen_82 rfl ?_
          refine rr_get fX7_148 0 rfl rfl dX7_seen_83 ?_
          refine rr_iconst dX7_seen_86 ?_
          refine rr_iadd dX7_seen_87 ?_
          refine rr_put (ws2 := [(m, ob 7 [.int (zz ↑np), .ref mP, .ref mW, .int (zz ↑nr), .ref mR, .ref mB, .ref mS, .int (zz ↑ac), .ref mA, .int (zz ↑ke), .ref mK, .int (zz (↑(se + 1))), .ref mE, .ref mT, .int (zz ↑tl), .int (zz ↑at_), .ref mD, .int (zz ↑rp), .ref nP, .ref nW, .int (zz ↑rr), .ref nR, .ref nB, .ref mN, .ref mO, .ref mQ, .int (zz dp), .ref mX]), (mE, aI E 18 (updI (updI (updI sn (3 * se) y) (3 * se + 1) u) (3 * se + 2) v))]) fX7_148 0 rfl rfl rfl (Nat.le_of_ble_eq_true rfl) rfl dX7_seen_88 ?_
          refine rr_aload_n 0 dX7_seen_91 rfl ?_
          refine rr_get fX7_148 0 rfl rfl dX7_seen_92 ?_
          exact rr_iret dX7_seen_95 rfl rfl ⟨rfl, rfl⟩
        · skip
          exfalso; omega
      · skip
        exfalso; omega
set_option maxRecDepth 100000 in
set_option maxHeartbeats 400000 in
theorem c_Mforget (E : Ev) (d : Nat) (m mP mW mR mB mS mA mK mE mT mD nP nW nR nB mN mO mQ mX : Nat) (np nr ac ke se tl at_ rp rr : Nat) (dp : Int) : SP E mX7_forget (d + 0) 0 0 [.ref m] [(m, ob 7 [.int (zz ↑np), .ref mP, .ref mW, .int (zz ↑nr), .ref mR, .ref mB, .ref mS, .int (zz ↑ac), .ref mA, .int (zz ↑ke), .ref mK, .int (zz ↑se), .ref mE, .ref mT, .int (zz ↑tl), .int (zz ↑at_), .ref mD, .int (zz ↑rp), .ref nP, .ref nW, .int (zz ↑rr), .ref nR, .ref nB, .ref mN, .ref mO, .ref mQ, .int (zz dp), .ref mX])] (FP (some (.int (zz ↑se))) [(m, ob 7 [.int (zz ↑np), .ref mP, .ref mW, .int (zz ↑nr), .ref mR, .ref mB, .ref mS, .int (zz ↑ac), .ref mA, .int (zz ↑ke), .ref mK, .int (zz 0), .ref mE, .ref mT, .int (zz ↑tl), .int (zz ↑at_), .ref mD, .int (zz ↑rp), .ref nP, .ref nW, .int (zz ↑rr), .ref nR, .ref nB, .ref mN, .ref mO, .ref mQ, .int (zz dp), .ref mX])]) := by
  show RR E mX7_forget (d + 0) 0 0 0 [(0, .ref m)] [] [(m, ob 7 [.int (zz ↑np), .ref mP, .ref mW, .int (zz ↑nr), .ref mR, .ref mB, .ref mS, .int (zz ↑ac), .ref mA, .int (zz ↑ke), .ref mK, .int (zz ↑se), .ref mE, .ref mT, .int (zz ↑tl), .int (zz ↑at_), .ref mD, .int (zz ↑rp), .ref nP, .ref nW, .int (zz ↑rr), .ref nR, .ref nB, .ref mN, .ref mO, .ref mQ, .int (zz dp), .ref mX])] (FP (some (.int (zz ↑se))) [(m, ob 7 [.int (zz ↑np), .ref mP, .ref mW, .int (zz ↑nr), .ref mR, .ref mB, .ref mS, .int (zz ↑ac), .ref mA, .int (zz ↑ke), .ref mK, .int (zz 0), .ref mE, .ref mT, .int (zz ↑tl), .int (zz ↑at_), .ref mD, .int (zz ↑rp), .ref nP, .ref nW, .int (zz ↑rr), .ref nR, .ref nB, .ref mN, .ref mO, .ref mQ, .int (zz dp), .ref mX])])
  refine rr_aload_n 0 dX7_forget_0 rfl ?_
  refine rr_get fX7_148 0 rfl rfl dX7_forget_1 ?_
  refine rr_istore_n (lv2 := [(0, .ref m), (1, .int (zz ↑se))]) dX7_forget_4 (by decide) rfl ?_
  refine rr_aload_n 0 dX7_forget_5 rfl ?_
  refine rr_iconst dX7_forget_6 ?_
  refine rr_put (ws2 := [(m, ob 7 [.int (zz ↑np), .ref mP, .ref mW, .int (zz ↑nr), .ref mR, .ref mB, .ref mS, .int (zz ↑ac), .ref mA, .int (zz ↑ke), .ref mK, .int (zz 0), .ref mE, .ref mT, .int (zz ↑tl), .int (zz ↑at_), .ref mD, .int (zz ↑rp), .ref nP, .ref nW, .int (zz ↑rr), .ref nR, .ref nB, .ref mN, .ref mO, .ref mQ, .int (zz dp), .ref mX])]) fX7_148 0 rfl rfl rfl (Nat.le_of_ble_eq_true rfl) rfl dX7_forget_7 ?_
  refine rr_iload_n 1 dX7_forget_10 rfl ?_
  exact rr_iret dX7_forget_11 rfl rfl ⟨rfl, rfl⟩
set_option maxRecDepth 100000 in
set_option maxHeartbeats 400000 in
theorem c_isSo (E : Ev) (d : Nat) (m mP mW mR mB mS mA mK mE mT mD nP nW nR nB mN mO mQ mX : Nat) (np nr ac ke se tl at_ rp rr : Nat) (dp : Int) (sn sp sc sv : Nat → Int) (p k u : Int) (hS : SL se sp sc sv sn) (hs : sOK se sp sc sv) (hp : 0 ≤ p ∧ p < 7) (hk : 0 ≤ k ∧ k ≤ 3) (hu : 0 ≤ u ∧ u ≤ 9) : SP E mX7_isSo (d + 1) 0 0 [.ref m, .int (zz p), .int (zz k), .int (zz u)] [(m, ob 7 [.int (zz ↑np), .ref mP, .ref mW, .int (zz ↑nr), .ref mR, .ref mB, .ref mS, .int (zz ↑ac), .ref mA, .int (zz ↑ke), .ref mK, .int (zz ↑se), .ref mE, .ref mT, .int (zz ↑tl), .int (zz ↑at_), .ref mD, .int (zz ↑rp), .ref nP, .ref nW, .int (zz ↑rr), .ref nR, .ref nB, .ref mN, .ref mO, .ref mQ, .int (zz dp), .ref mX]), (mE, aI E 18 sn)] (FP (some (.int (zz (bI (!anyTo (notF sp sc sv p k u) se))))) [(m, ob 7 [.int (zz ↑np), .ref mP, .ref mW, .int (zz ↑nr), .ref mR, .ref mB, .ref mS, .int (zz ↑ac), .ref mA, .int (zz ↑ke), .ref mK, .int (zz ↑se), .ref mE, .ref mT, .int (zz ↑tl), .int (zz ↑at_), .ref mD, .int (zz ↑rp), .ref nP, .ref nW, .int (zz ↑rr), .ref nR, .ref nB, .ref mN, .ref mO, .ref mQ, .int (zz dp), .ref mX]), (mE, aI E 18 sn)]) := by
  show RR E mX7_isSo (d + 1) 0 0 0 [(0, .ref m), (1, .int (zz p)), (2, .int (zz k)), (3, .int (zz u))] [] [(m, ob 7 [.int (zz ↑np), .ref mP, .ref mW, .int (zz ↑nr), .ref mR, .ref mB, .ref mS, .int (zz ↑ac), .ref mA, .int (zz ↑ke), .ref mK, .int (zz ↑se), .ref mE, .ref mT, .int (zz ↑tl), .int (zz ↑at_), .ref mD, .int (zz ↑rp), .ref nP, .ref nW, .int (zz ↑rr), .ref nR, .ref nB, .ref mN, .ref mO, .ref mQ, .int (zz dp), .ref mX]), (mE, aI E 18 sn)] (FP (some (.int (zz (bI (!anyTo (notF sp sc sv p k u) se))))) [(m, ob 7 [.int (zz ↑np), .ref mP, .ref mW, .int (zz ↑nr), .ref mR, .ref mB, .ref mS, .int (zz ↑ac), .ref mA, .int (zz ↑ke), .ref mK, .int (zz ↑se), .ref mE, .ref mT, .int (zz ↑tl), .int (zz ↑at_), .ref mD, .int (zz ↑rp), .ref nP, .ref nW, .int (zz ↑rr), .ref nR, .ref nB, .ref mN, .ref mO, .ref mQ, .int (zz dp), .ref mX]), (mE, aI E 18 sn)])
  have hs1 := hs.1
  have lp : ∀ (n i : Nat), i + n = se → RR E mX7_isSo (d + 1) 0 0 6 [(0, .ref m), (1, .int (zz p)), (2, .int (zz k)), (3, .int (zz u)), (4, .int (zz (bI (!anyTo (notF sp sc sv p k u) i)))), (5, .int (zz ↑i))] [] [(m, ob 7 [.int (zz ↑np), .ref mP, .ref mW, .int (zz ↑nr), .ref mR, .ref mB, .ref mS, .int (zz ↑ac), .ref mA, .int (zz ↑ke), .ref mK, .int (zz ↑se), .ref mE, .ref mT, .int (zz ↑tl), .int (zz ↑at_), .ref mD, .int (zz ↑rp), .ref nP, .ref nW, .int (zz ↑rr), .ref nR, .ref nB, .ref mN, .ref mO, .ref mQ, .int (zz dp), .ref mX]), (mE, aI E 18 sn)] (FP (some (.int (zz (bI (!anyTo (notF sp sc sv p k u) se))))) [(m, ob 7 [.int (zz ↑np), .ref mP, .ref mW, .int (zz ↑nr), .ref mR, .ref mB, .ref mS, .int (zz ↑ac), .ref mA, .int (zz ↑ke), .ref mK, .int (zz ↑se), .ref mE, .ref mT, .int (zz ↑tl), .int (zz ↑at_), .ref mD, .int (zz ↑rp), .ref nP, .ref nW, .int (zz ↑rr), .ref nR, .ref nB, .ref mN, .ref mO, .ref mQ, .int (zz dp), .ref mX]), (mE, aI E 18 sn)]) := by
    intro n
    induction n with
    | zero =>
      intro i h1
      obtain rfl : i = se := by omega
      refine rr_iload 5 dX7_isSo_6 rfl ?_
      refine rr_aload_n 0 dX7_isSo_8 rfl ?_
      refine rr_get fX7_148 0 rfl rfl dX7_isSo_9 ?_
      refine rr_icmp_ge 81 dX7_isSo_12 (by decide) (by omega) (by omega) (fun c_1 => ?_) (fun c_1 => ?_)
      · skip
        refine rr_iload 4 dX7_isSo_81 rfl ?_
        exact rr_iret dX7_isSo_83 rfl (nar_b _) ⟨rfl, rfl⟩
      · skip
        exfalso; omega
    | succ n ih =>
      intro i h1
      have hi : i < se := by omega
      obtain ⟨a0, a1, a2⟩ := hS i hi
      obtain ⟨b0, b1, b2⟩ := hs.2 i hi
      have hlr := liftF_rg (k := k) (c := sn (3 * i + 1)) (b := false) (r := 1) hu
      refine rr_iload 5 dX7_isSo_6 rfl ?_
      refine rr_aload_n 0 dX7_isSo_8 rfl ?_
      refine rr_get fX7_148 0 rfl rfl dX7_isSo_9 ?_
      refine rr_icmp_ge 81 dX7_isSo_12 (by decide) (by omega) (by omega) (fun c_2 => ?_) (fun c_2 => ?_)
      · skip
        exfalso; omega
      · skip
        refine rr_iload 4 dX7_isSo_15 rfl ?_
        refine rr_if_eqB 72 dX7_isSo_17 (by decide) (fun ha => ?_) (fun ha => ?_)
        · skip
          refine rr_iconst dX7_isSo_72 ?_
          refine rr_istore (lv2 := [(0, .ref m), (1, .int (zz p)), (2, .int (zz k)), (3, .int (zz u)), (4, .int (zz 0)), (5, .int (zz ↑i))]) dX7_isSo_73 (by decide) rfl ?_
          refine rr_iinc (lv2 := [(0, .ref m), (1, .int (zz p)), (2, .int (zz k)), (3, .int (zz u)), (4, .int (zz 0)), (5, .int (zz (↑(i + 1))))]) 5 dX7_isSo_75 rfl (by decide) rfl ?_
          refine rr_goto 6 dX7_isSo_78 (by decide) ?_
          refine RR.eq (lv2 := [(0, .ref m), (1, .int (zz p)), (2, .int (zz k)), (3, .int (zz u)), (4, .int (zz (bI (!anyTo (notF sp sc sv p k u) (i + 1))))), (5, .int (zz (↑(i + 1))))]) rfl (by rw [anyTo]; simp only [Bool.not_or]; rw [a1] at *; first | (rw [ha]; rfl) | (rw [ha, show notF sp sc sv p k u i = false from decide_eq_false (by omega)]; rfl) | (rw [ha, show notF sp sc sv p k u i = true from decide_eq_true ⟨by omega, by omega⟩]; rfl)) rfl rfl ?_
          exact ih (i + 1) (by omega)
        · skip
          refine rr_aload_n 0 dX7_isSo_20 rfl ?_
          refine rr_get fX7_31 0 rfl rfl dX7_isSo_21 ?_
          refine rr_iconst dX7_isSo_24 ?_
          refine rr_iload 5 dX7_isSo_25 rfl ?_
          refine rr_imul dX7_isSo_27 ?_
          refine rr_iald 1 (3 * i) rfl (by omega) (by omega) (by omega) dX7_isSo_28 ?_
          refine rr_iload_n 1 dX7_isSo_29 rfl ?_
          refine rr_icmp_ne 68 dX7_isSo_30 (by decide) (by omega) (by omega) (fun hb => ?_) (fun hb => ?_)
          · skip
            refine rr_iconst dX7_isSo_68 ?_
            refine rr_goto 73 dX7_isSo_69 (by decide) ?_
            refine rr_istore (lv2 := [(0, .ref m), (1, .int (zz p)), (2, .int (zz k)), (3, .int (zz u)), (4, .int (zz 1)), (5, .int (zz ↑i))]) dX7_isSo_73 (by decide) rfl ?_
            refine rr_iinc (lv2 := [(0, .ref m), (1, .int (zz p)), (2, .int (zz k)), (3, .int (zz u)), (4, .int (zz 1)), (5, .int (zz (↑(i + 1))))]) 5 dX7_isSo_75 rfl (by decide) rfl ?_
            refine rr_goto 6 dX7_isSo_78 (by decide) ?_
            refine RR.eq (lv2 := [(0, .ref m), (1, .int (zz p)), (2, .int (zz k)), (3, .int (zz u)), (4, .int (zz (bI (!anyTo (notF sp sc sv p k u) (i + 1))))), (5, .int (zz (↑(i + 1))))]) rfl (by rw [anyTo]; simp only [Bool.not_or]; rw [a1] at *; first | (rw [ha]; rfl) | (rw [ha, show notF sp sc sv p k u i = false from decide_eq_false (by omega)]; rfl) | (rw [ha, show notF sp sc sv p k u i = true from decide_eq_true ⟨by omega, by omega⟩]; rfl)) rfl rfl ?_
            exact ih (i + 1) (by omega)
          · skip
            refine rr_iload_n 2 dX7_isSo_33 rfl ?_
            refine rr_iload_n 3 dX7_isSo_34 rfl ?_
            refine rr_aload_n 0 dX7_isSo_35 rfl ?_
            refine rr_get fX7_31 0 rfl rfl dX7_isSo_36 ?_
            refine rr_iconst dX7_isSo_39 ?_
            refine rr_iload 5 dX7_isSo_40 rfl ?_
            refine rr_imul dX7_isSo_42 ?_
            refine rr_iconst dX7_isSo_43 ?_
            refine rr_iadd dX7_isSo_44 ?_
            refine rr_iald 1 (3 * i + 1) rfl (by omega) (by omega) (by omega) dX7_isSo_45 ?_
            refine rr_iconst dX7_isSo_46 ?_
            refine rr_iconst dX7_isSo_47 ?_
            refine rr_callFi (ws2 := [(m, ob 7 [.int (zz ↑np), .ref mP, .ref mW, .int (zz ↑nr), .ref mR, .ref mB, .ref mS, .int (zz ↑ac), .ref mA, .int (zz ↑ke), .ref mK, .int (zz ↑se), .ref mE, .ref mT, .int (zz ↑tl), .int (zz ↑at_), .ref mD, .int (zz ↑rp), .ref nP, .ref nW, .int (zz ↑rr), .ref nR, .ref nB, .ref mN, .ref mO, .ref mQ, .int (zz dp), .ref mX]), (mE, aI E 18 sn)]) (wr := [(m, ob 7 [.int (zz ↑np), .ref mP, .ref mW, .int (zz ↑nr), .ref mR, .ref mB, .ref mS, .int (zz ↑ac), .ref mA, .int (zz ↑ke), .ref mK, .int (zz ↑se), .ref mE, .ref mT, .int (zz ↑tl), .int (zz ↑at_), .ref mD, .int (zz ↑rp), .ref nP, .ref nW, .int (zz ↑rr), .ref nR, .ref nB, .ref mN, .ref mO, .ref mQ, .int (zz dp), .ref mX]), (mE, aI E 18 sn)]) (call_S kX7_157 (c_lifts E (d + 0) k u (sn (3 * i + 1)) 1 false (by omega) (by omega) (by omega) (by omega)) rfl (by omega) (by decide) (Nat.le_of_ble_eq_true rfl) (Nat.le_of_ble_eq_true rfl) dX7_isSo_48) [] [0, 1] [0, 1] rfl rfl rfl rfl rfl rfl rfl ?_
            refine rr_aload_n 0 dX7_isSo_51 rfl ?_
            refine rr_get fX7_31 0 rfl rfl dX7_isSo_52 ?_
            refine rr_iconst dX7_isSo_55 ?_
            refine rr_iload 5 dX7_isSo_56 rfl ?_
            refine rr_imul dX7_isSo_58 ?_
            refine rr_iconst dX7_isSo_59 ?_
            refine rr_iadd dX7_isSo_60 ?_
            refine rr_iald 1 (3 * i + 2) rfl (by omega) (by omega) (by omega) dX7_isSo_61 ?_
            refine rr_bipush dX7_isSo_62 (by decide) ?_
            refine rr_isub dX7_isSo_64 ?_
            refine rr_icmp_ne 72 dX7_isSo_65 (by decide) (by omega) (by omega) (fun hc => ?_) (fun hc => ?_)
            · skip
              refine rr_iconst dX7_isSo_72 ?_
              refine rr_istore (lv2 := [(0, .ref m), (1, .int (zz p)), (2, .int (zz k)), (3, .int (zz u)), (4, .int (zz 0)), (5, .int (zz ↑i))]) dX7_isSo_73 (by decide) rfl ?_
              refine rr_iinc (lv2 := [(0, .ref m), (1, .int (zz p)), (2, .int (zz k)), (3, .int (zz u)), (4, .int (zz 0)), (5, .int (zz (↑(i + 1))))]) 5 dX7_isSo_75 rfl (by decide) rfl ?_
              refine rr_goto 6 dX7_isSo_78 (by decide) ?_
              refine RR.eq (lv2 := [(0, .ref m), (1, .int (zz p)), (2, .int (zz k)), (3, .int (zz u)), (4, .int (zz (bI (!anyTo (notF sp sc sv p k u) (i + 1))))), (5, .int (zz (↑(i + 1))))]) rfl (by rw [anyTo]; simp only [Bool.not_or]; rw [a1] at *; first | (rw [ha]; rfl) | (rw [ha, show notF sp sc sv p k u i = false from decide_eq_false (by omega)]; rfl) | (rw [ha, show notF sp sc sv p k u i = true from decide_eq_true ⟨by omega, by omega⟩]; rfl)) rfl rfl ?_
              exact ih (i + 1) (by omega)
            · skip
              refine rr_iconst dX7_isSo_68 ?_
              refine rr_goto 73 dX7_isSo_69 (by decide) ?_
              refine rr_istore (lv2 := [(0, .ref m), (1, .int (zz p)), (2, .int (zz k)), (3, .int (zz u)), (4, .int (zz 1)), (5, .int (zz ↑i))]) dX7_isSo_73 (by decide) rfl ?_
              refine rr_iinc (lv2 := [(0, .ref m), (1, .int (zz p)), (2, .int (zz k)), (3, .int (zz u)), (4, .int (zz 1)), (5, .int (zz (↑(i + 1))))]) 5 dX7_isSo_75 rfl (by decide) rfl ?_
              refine rr_goto 6 dX7_isSo_78 (by decide) ?_
              refine RR.eq (lv2 := [(0, .ref m), (1, .int (zz p)), (2, .int (zz k)), (3, .int (zz u)), (4, .int (zz (bI (!anyTo (notF sp sc sv p k u) (i + 1))))), (5, .int (zz (↑(i + 1))))]) rfl (by rw [anyTo]; simp only [Bool.not_or]; rw [a1] at *; first | (rw [ha]; rfl) | (rw [ha, show notF sp sc sv p k u i = false from decide_eq_false (by omega)]; rfl) | (rw [ha, show notF sp sc sv p k u i = true from decide_eq_true ⟨by omega, by omega⟩]; rfl)) rfl rfl ?_
              exact ih (i + 1) (by omega)
  refine rr_iconst dX7_isSo_0 ?_
  refine rr_istore (lv2 := [(0, .ref m), (1, .int (zz p)), (2, .int (zz k)), (3, .int (zz u)), (4, .int (zz 1))]) dX7_isSo_1 (by decide) rfl ?_
  refine rr_iconst dX7_isSo_3 ?_
  refine rr_istore (lv2 := [(0, .ref m), (1, .int (zz p)), (2, .int (zz k)), (3, .int (zz u)), (4, .int (zz 1)), (5, .int (zz 0))]) dX7_isSo_4 (by decide) rfl ?_
  exact lp se 0 (by omega)
set_option maxRecDepth 100000 in
set_option maxHeartbeats 400000 in
theorem c_Mmay_bad (E : Ev) (d : Nat) (m mP mW mR mB mS mA mK mE mT mD nP nW nR nB mN mO mQ mX : Nat) (np nr ac ke se tl at_ rp rr : Nat) (dp : Int) (y w : Int) (gy : -2147483648 ≤ y ∧ y < 2147483648) (gw : -2147483648 ≤ w ∧ w < 2147483648) (hn : np ≤ 7) (hc : ¬ ((0 ≤ y ∧ y < (np : Int)) ∧ 0 ≤ w ∧ w ≤ 1)) : SP E mX7_may (d + 2) 0 0 [.ref m, .int (zz y), .int (zz w)] [(m, ob 7 [.int (zz ↑np), .ref mP, .ref mW, .int (zz ↑nr), .ref mR, .ref mB, .ref mS, .int (zz ↑ac), .ref mA, .int (zz ↑ke), .ref mK, .int (zz ↑se), .ref mE, .ref mT, .int (zz ↑tl), .int (zz ↑at_), .ref mD, .int (zz ↑rp), .ref nP, .ref nW, .int (zz ↑rr), .ref nR, .ref nB, .ref mN, .ref mO, .ref mQ, .int (zz dp), .ref mX])] (FP (some (.int (zz (-1)))) [(m, ob 7 [.int (zz ↑np), .ref mP, .ref mW, .int (zz ↑nr), .ref mR, .ref mB, .ref mS, .int (zz ↑ac), .ref mA, .int (zz ↑ke), .ref mK, .int (zz ↑se), .ref mE, .ref mT, .int (zz ↑tl), .int (zz ↑at_), .ref mD, .int (zz ↑rp), .ref nP, .ref nW, .int (zz ↑rr), .ref nR, .ref nB, .ref mN, .ref mO, .ref mQ, .int (zz dp), .ref mX])]) := by
  show RR E mX7_may (d + 2) 0 0 0 [(0, .ref m), (1, .int (zz y)), (2, .int (zz w))] [] [(m, ob 7 [.int (zz ↑np), .ref mP, .ref mW, .int (zz ↑nr), .ref mR, .ref mB, .ref mS, .int (zz ↑ac), .ref mA, .int (zz ↑ke), .ref mK, .int (zz ↑se), .ref mE, .ref mT, .int (zz ↑tl), .int (zz ↑at_), .ref mD, .int (zz ↑rp), .ref nP, .ref nW, .int (zz ↑rr), .ref nR, .ref nB, .ref mN, .ref mO, .ref mQ, .int (zz dp), .ref mX])] (FP (some (.int (zz (-1)))) [(m, ob 7 [.int (zz ↑np), .ref mP, .ref mW, .int (zz ↑nr), .ref mR, .ref mB, .ref mS, .int (zz ↑ac), .ref mA, .int (zz ↑ke), .ref mK, .int (zz ↑se), .ref mE, .ref mT, .int (zz ↑tl), .int (zz ↑at_), .ref mD, .int (zz ↑rp), .ref nP, .ref nW, .int (zz ↑rr), .ref nR, .ref nB, .ref mN, .ref mO, .ref mQ, .int (zz dp), .ref mX])])
  refine rr_aload_n 0 dX7_may_0 rfl ?_
  refine rr_iload_n 1 dX7_may_1 rfl ?_
  refine rr_callFi (ws2 := [(m, ob 7 [.int (zz ↑np), .ref mP, .ref mW, .int (zz ↑nr), .ref mR, .ref mB, .ref mS, .int (zz ↑ac), .ref mA, .int (zz ↑ke), .ref mK, .int (zz ↑se), .ref mE, .ref mT, .int (zz ↑tl), .int (zz ↑at_), .ref mD, .int (zz ↑rp), .ref nP, .ref nW, .int (zz ↑rr), .ref nR, .ref nB, .ref mN, .ref mO, .ref mQ, .int (zz dp), .ref mX])]) (wr := []) (call_V (q0 := 0) kX7_177 (c_MisPeg E (d + 0) m mP mW mR mB mS mA mK mE mT mD nP nW nR nB mN mO mQ mX np nr ac ke se tl at_ rp rr dp y (by omega) (by omega)) rfl rfl rfl rfl (by omega) (by decide) (Nat.le_of_ble_eq_true rfl) (Nat.le_of_ble_eq_true rfl) dX7_may_2) [0] [] [0] rfl rfl rfl rfl rfl rfl rfl ?_
  refine rr_if_eqD 17 dX7_may_5 (by decide) (fun c_1 => ?_) (fun c_1 => ?_)
  · skip
    refine rr_iconst dX7_may_17 ?_
    exact rr_iret dX7_may_18 rfl rfl ⟨rfl, rfl⟩
  · skip
    refine rr_iload_n 2 dX7_may_8 rfl ?_
    refine rr_iconst dX7_may_9 ?_
    refine rr_iconst dX7_may_10 ?_
    refine rr_callFi (ws2 := [(m, ob 7 [.int (zz ↑np), .ref mP, .ref mW, .int (zz ↑nr), .ref mR, .ref mB, .ref mS, .int (zz ↑ac), .ref mA, .int (zz ↑ke), .ref mK, .int (zz ↑se), .ref mE, .ref mT, .int (zz ↑tl), .int (zz ↑at_), .ref mD, .int (zz ↑rp), .ref nP, .ref nW, .int (zz ↑rr), .ref nR, .ref nB, .ref mN, .ref mO, .ref mQ, .int (zz dp), .ref mX])]) (wr := [(m, ob 7 [.int (zz ↑np), .ref mP, .ref mW, .int (zz ↑nr), .ref mR, .ref mB, .ref mS, .int (zz ↑ac), .ref mA, .int (zz ↑ke), .ref mK, .int (zz ↑se), .ref mE, .ref mT, .int (zz ↑tl), .int (zz ↑at_), .ref mD, .int (zz ↑rp), .ref nP, .ref nW, .int (zz ↑rr), .ref nR, .ref nB, .ref mN, .ref mO, .ref mQ, .int (zz dp), .ref mX])]) (call_S kX7_88 (c_in E (d + 1) w 0 1 (by omega) (by omega) (by omega)) rfl (by omega) (by decide) (Nat.le_of_ble_eq_true rfl) (Nat.le_of_ble_eq_true rfl) dX7_may_11) [] [0] [0] rfl rfl rfl rfl rfl rfl rfl ?_
    refine rr_if_neD 19 dX7_may_14 (by decide) (fun c_2 => ?_) (fun c_2 => ?_)
    · skip
      exfalso; omega
    · skip
      refine rr_iconst dX7_may_17 ?_
      exact rr_iret dX7_may_18 rfl rfl ⟨rfl, rfl⟩
set_option maxRecDepth 100000 in
set_option maxHeartbeats 400000 in
theorem c_Mmay_0 (E : Ev) (d : Nat) (m mP mW mR mB mS mA mK mE mT mD nP nW nR nB mN mO mQ mX : Nat) (np nr ac ke se tl at_ rp rr : Nat) (dp : Int) (sn sp sc sv kd lf qt wd pg wn : Nat → Int) (hP : PL np kd lf qt wd pg wn) (hpc : pOK np kd lf qt wd) (hS : SL se sp sc sv sn) (hs : sOK se sp sc sv) (i0 : Nat) (hi0 : i0 < np) : SP E mX7_may (d + 2) 0 0 [.ref m, .int (zz ↑i0), .int (zz 0)] [(m, ob 7 [.int (zz ↑np), .ref mP, .ref mW, .int (zz ↑nr), .ref mR, .ref mB, .ref mS, .int (zz ↑ac), .ref mA, .int (zz ↑ke), .ref mK, .int (zz ↑se), .ref mE, .ref mT, .int (zz ↑tl), .int (zz ↑at_), .ref mD, .int (zz ↑rp), .ref nP, .ref nW, .int (zz ↑rr), .ref nR, .ref nB, .ref mN, .ref mO, .ref mQ, .int (zz dp), .ref mX]), (mP, aI E 21 pg), (mE, aI E 18 sn)] (FP (some (.int (zz (↑(bitsTo (may0 se sp sc sv ↑i0 (lf i0)) 4))))) [(m, ob 7 [.int (zz ↑np), .ref mP, .ref mW, .int (zz ↑nr), .ref mR, .ref mB, .ref mS, .int (zz ↑ac), .ref mA, .int (zz ↑ke), .ref mK, .int (zz ↑se), .ref mE, .ref mT, .int (zz ↑tl), .int (zz ↑at_), .ref mD, .int (zz ↑rp), .ref nP, .ref nW, .int (zz ↑rr), .ref nR, .ref nB, .ref mN, .ref mO, .ref mQ, .int (zz dp), .ref mX]), (mP, aI E 21 pg), (mE, aI E 18 sn)]) := by
  show RR E mX7_may (d + 2) 0 0 0 [(0, .ref m), (1, .int (zz ↑i0)), (2, .int (zz 0))] [] [(m, ob 7 [.int (zz ↑np), .ref mP, .ref mW, .int (zz ↑nr), .ref mR, .ref mB, .ref mS, .int (zz ↑ac), .ref mA, .int (zz ↑ke), .ref mK, .int (zz ↑se), .ref mE, .ref mT, .int (zz ↑tl), .int (zz ↑at_), .ref mD, .int (zz ↑rp), .ref nP, .ref nW, .int (zz ↑rr), .ref nR, .ref nB, .ref mN, .ref mO, .ref mQ, .int (zz dp), .ref mX]), (mP, aI E 21 pg), (mE, aI E 18 sn)] (FP (some (.int (zz (↑(bitsTo (may0 se sp sc sv ↑i0 (lf i0)) 4))))) [(m, ob 7 [.int (zz ↑np), .ref mP, .ref mW, .int (zz ↑nr), .ref mR, .ref mB, .ref mS, .int (zz ↑ac), .ref mA, .int (zz ↑ke), .ref mK, .int (zz ↑se), .ref mE, .ref mT, .int (zz ↑tl), .int (zz ↑at_), .ref mD, .int (zz ↑rp), .ref nP, .ref nW, .int (zz ↑rr), .ref nR, .ref nB, .ref mN, .ref mO, .ref mQ, .int (zz dp), .ref mX]), (mP, aI E 21 pg), (mE, aI E 18 sn)])
  have hn := hpc.1
  obtain ⟨k0, u0, t0⟩ := hpc.2.1 i0 hi0
  obtain ⟨p1, p2, p3⟩ := hP.1 i0 hi0
  have lp : ∀ (n i : Nat) (g1 : Nat → Int), i + n = 4 → RR E mX7_may (d + 2) 0 0 24 [(0, .ref m), (1, .int (zz ↑i0)), (2, .int (zz 0)), (3, .int (zz (↑(bitsTo (may0 se sp sc sv ↑i0 (lf i0)) i)))), (4, .int (zz ↑i))] [] [(m, ob 7 [.int (zz ↑np), .ref mP, .ref mW, .int (zz ↑nr), .ref mR, .ref mB, .ref mS, .int (zz ↑ac), .ref mA, .int (zz ↑ke), .ref mK, .int (zz ↑se), .ref mE, .ref mT, .int (zz ↑tl), .int (zz ↑at_), .ref mD, .int (zz ↑rp), .ref nP, .ref nW, .int (zz ↑rr), .ref nR, .ref nB, .ref mN, .ref mO, .ref mQ, .int (zz dp), .ref mX]), (mP, aI E 21 pg), (mE, aI E 18 sn)] (FP (some (.int (zz (↑(bitsTo (may0 se sp sc sv ↑i0 (lf i0)) 4))))) [(m, ob 7 [.int (zz ↑np), .ref mP, .ref mW, .int (zz ↑nr), .ref mR, .ref mB, .ref mS, .int (zz ↑ac), .ref mA, .int (zz ↑ke), .ref mK, .int (zz ↑se), .ref mE, .ref mT, .int (zz ↑tl), .int (zz ↑at_), .ref mD, .int (zz ↑rp), .ref nP, .ref nW, .int (zz ↑rr), .ref nR, .ref nB, .ref mN, .ref mO, .ref mQ, .int (zz dp), .ref mX]), (mP, aI E 21 pg), (mE, aI E 18 sn)]) := by
    intro n
    induction n with
    | zero =>
      intro i g1 h1
      obtain rfl : i = 4 := by omega
      refine rr_iload 4 dX7_may_24 rfl ?_
      refine rr_iload_n 2 dX7_may_26 rfl ?_
      refine rr_if_ne 34 dX7_may_27 (by decide) (by omega) (fun c_1 => ?_) (fun c_1 => ?_)
      · skip
        exfalso; omega
      · skip
        refine rr_iconst dX7_may_30 ?_
        refine rr_goto 36 dX7_may_31 (by decide) ?_
        refine rr_icmp_ge 102 dX7_may_36 (by decide) (by omega) (by omega) (fun c_2 => ?_) (fun c_2 => ?_)
        · skip
          refine rr_iload_n 3 dX7_may_102 rfl ?_
          exact rr_iret dX7_may_103 rfl rfl ⟨rfl, rfl⟩
        · skip
          exfalso; omega
    | succ n ih =>
      intro i g1 h1
      have hi : i < 4 := by omega
      refine rr_iload 4 dX7_may_24 rfl ?_
      refine rr_iload_n 2 dX7_may_26 rfl ?_
      refine rr_if_ne 34 dX7_may_27 (by decide) (by omega) (fun c_3 => ?_) (fun c_3 => ?_)
      · skip
        exfalso; omega
      · skip
        refine rr_iconst dX7_may_30 ?_
        refine rr_goto 36 dX7_may_31 (by decide) ?_
        refine rr_icmp_ge 102 dX7_may_36 (by decide) (by omega) (by omega) (fun c_4 => ?_) (fun c_4 => ?_)
        · skip
          exfalso; omega
        · skip
          refine rr_iload_n 2 dX7_may_39 rfl ?_
          refine rr_if_ne 63 dX7_may_40 (by decide) (by omega) (fun c_5 => ?_) (fun c_5 => ?_)
          · skip
            exfalso; omega
          · skip
            refine rr_aload_n 0 dX7_may_43 rfl ?_
            refine rr_iload_n 1 dX7_may_44 rfl ?_
            refine rr_iload 4 dX7_may_45 rfl ?_
            refine rr_aload_n 0 dX7_may_47 rfl ?_
            refine rr_get fX7_7 0 rfl rfl dX7_may_48 ?_
            refine rr_iconst dX7_may_51 ?_
            refine rr_iload_n 1 dX7_may_52 rfl ?_
            refine rr_imul dX7_may_53 ?_
            refine rr_iconst dX7_may_54 ?_
            refine rr_iadd dX7_may_55 ?_
            refine rr_iald 1 (3 * i0 + 1) rfl (by omega) (by omega) (by omega) dX7_may_56 ?_
            refine rr_callFi (ws2 := [(m, ob 7 [.int (zz ↑np), .ref mP, .ref mW, .int (zz ↑nr), .ref mR, .ref mB, .ref mS, .int (zz ↑ac), .ref mA, .int (zz ↑ke), .ref mK, .int (zz ↑se), .ref mE, .ref mT, .int (zz ↑tl), .int (zz ↑at_), .ref mD, .int (zz ↑rp), .ref nP, .ref nW, .int (zz ↑rr), .ref nR, .ref nB, .ref mN, .ref mO, .ref mQ, .int (zz dp), .ref mX]), (mP, aI E 21 pg), (mE, aI E 18 sn)]) (wr := [(mP, aI E 21 pg)]) (call_V (q0 := 0) kX7_219 (c_isSo E (d + 0) m mP mW mR mB mS mA mK mE mT mD nP nW nR nB mN mO mQ mX np nr ac ke se tl at_ rp rr dp sn sp sc sv ↑i0 ↑i (pg (3 * i0 + 1)) hS hs (by omega) (by omega) (by omega)) rfl rfl rfl rfl (by omega) (by decide) (Nat.le_of_ble_eq_true rfl) (Nat.le_of_ble_eq_true rfl) dX7_may_57) [0, 2] [1] [1, 0, 2] rfl rfl rfl rfl rfl rfl rfl ?_
            refine rr_goto 78 dX7_may_60 (by decide) ?_
            refine rr_istore (lv2 := [(0, .ref m), (1, .int (zz ↑i0)), (2, .int (zz 0)), (3, .int (zz (↑(bitsTo (may0 se sp sc sv ↑i0 (lf i0)) i)))), (4, .int (zz ↑i)), (5, .int (zz (bI (!anyTo (notF sp sc sv ↑i0 ↑i (pg (3 * i0 + 1))) se))))]) dX7_may_78 (by decide) rfl ?_
            refine rr_iload_n 3 dX7_may_80 rfl ?_
            refine rr_iload 5 dX7_may_81 rfl ?_
            refine rr_if_eqB 93 dX7_may_83 (by decide) (fun hal => ?_) (fun hal => ?_)
            · skip
              refine rr_iconst dX7_may_93 ?_
              refine rr_ior (a := bitsTo (may0 se sp sc sv ↑i0 (lf i0)) i) (b := 0) dX7_may_94 ?_
              refine rr_top (b := ↑(bitsTo (may0 se sp sc sv ↑i0 (lf i0)) (i + 1))) (by rw [Nat.or_zero, bitsTo, if_neg (by unfold may0; rw [← p2]; intro z; exact absurd (z.symm.trans hal) (by decide))]) ?_
              refine rr_istore_n (lv2 := [(0, .ref m), (1, .int (zz ↑i0)), (2, .int (zz 0)), (3, .int (zz (↑(bitsTo (may0 se sp sc sv ↑i0 (lf i0)) (i + 1))))), (4, .int (zz ↑i)), (5, .int (zz (bI (!anyTo (notF sp sc sv ↑i0 ↑i (pg (3 * i0 + 1))) se))))]) dX7_may_95 (by decide) rfl ?_
              refine rr_iinc (lv2 := [(0, .ref m), (1, .int (zz ↑i0)), (2, .int (zz 0)), (3, .int (zz (↑(bitsTo (may0 se sp sc sv ↑i0 (lf i0)) (i + 1))))), (4, .int (zz (↑(i + 1)))), (5, .int (zz (bI (!anyTo (notF sp sc sv ↑i0 ↑i (pg (3 * i0 + 1))) se))))]) 4 dX7_may_96 rfl (by decide) rfl ?_
              refine rr_goto 24 dX7_may_99 (by decide) ?_
              refine RR.lv [0, 1, 2, 3, 4] rfl ?_
              exact ih (i + 1) g1 (by omega)
            · skip
              refine rr_iconst dX7_may_86 ?_
              refine rr_iload 4 dX7_may_87 rfl ?_
              refine rr_ishl (n := 1) (k := i) dX7_may_89 (by omega) (by have := Nat.pow_le_pow_right (n := 2) (by omega) (show i ≤ 9 by omega); omega) ?_
              refine rr_top (b := ((2 ^ i : Nat) : Int)) (by rw [Nat.one_mul]) ?_
              refine rr_goto 94 dX7_may_90 (by decide) ?_
              refine rr_ior (a := bitsTo (may0 se sp sc sv ↑i0 (lf i0)) i) (b := 2 ^ i) dX7_may_94 ?_
              refine rr_top (b := ↑(bitsTo (may0 se sp sc sv ↑i0 (lf i0)) (i + 1))) (by rw [bitsTo, if_pos (by unfold may0; rw [← p2]; exact hal)]) ?_
              refine rr_istore_n (lv2 := [(0, .ref m), (1, .int (zz ↑i0)), (2, .int (zz 0)), (3, .int (zz (↑(bitsTo (may0 se sp sc sv ↑i0 (lf i0)) (i + 1))))), (4, .int (zz ↑i)), (5, .int (zz (bI (!anyTo (notF sp sc sv ↑i0 ↑i (pg (3 * i0 + 1))) se))))]) dX7_may_95 (by decide) rfl ?_
              refine rr_iinc (lv2 := [(0, .ref m), (1, .int (zz ↑i0)), (2, .int (zz 0)), (3, .int (zz (↑(bitsTo (may0 se sp sc sv ↑i0 (lf i0)) (i + 1))))), (4, .int (zz (↑(i + 1)))), (5, .int (zz (bI (!anyTo (notF sp sc sv ↑i0 ↑i (pg (3 * i0 + 1))) se))))]) 4 dX7_may_96 rfl (by decide) rfl ?_
              refine rr_goto 24 dX7_may_99 (by decide) ?_
              refine RR.lv [0, 1, 2, 3, 4] rfl ?_
              exact ih (i + 1) g1 (by omega)
  refine rr_aload_n 0 dX7_may_0 rfl ?_
  refine rr_iload_n 1 dX7_may_1 rfl ?_
  refine rr_callFi (ws2 := [(m, ob 7 [.int (zz ↑np), .ref mP, .ref mW, .int (zz ↑nr), .ref mR, .ref mB, .ref mS, .int (zz ↑ac), .ref mA, .int (zz ↑ke), .ref mK, .int (zz ↑se), .ref mE, .ref mT, .int (zz ↑tl), .int (zz ↑at_), .ref mD, .int (zz ↑rp), .ref nP, .ref nW, .int (zz ↑rr), .ref nR, .ref nB, .ref mN, .ref mO, .ref mQ, .int (zz dp), .ref mX]), (mP, aI E 21 pg), (mE, aI E 18 sn)]) (wr := [(mP, aI E 21 pg), (mE, aI E 18 sn)]) (call_V (q0 := 0) kX7_177 (c_MisPeg E (d + 0) m mP mW mR mB mS mA mK mE mT mD nP nW nR nB mN mO mQ mX np nr ac ke se tl at_ rp rr dp ↑i0 (by omega) (by omega)) rfl rfl rfl rfl (by omega) (by decide) (Nat.le_of_ble_eq_true rfl) (Nat.le_of_ble_eq_true rfl) dX7_may_2) [0] [1, 2] [2, 0, 1] rfl rfl rfl rfl rfl rfl rfl ?_
  refine rr_if_eqD 17 dX7_may_5 (by decide) (fun c_6 => ?_) (fun c_6 => ?_)
  · skip
    exfalso; omega
  · skip
    refine rr_iload_n 2 dX7_may_8 rfl ?_
    refine rr_iconst dX7_may_9 ?_
    refine rr_iconst dX7_may_10 ?_
    refine rr_callFi (ws2 := [(m, ob 7 [.int (zz ↑np), .ref mP, .ref mW, .int (zz ↑nr), .ref mR, .ref mB, .ref mS, .int (zz ↑ac), .ref mA, .int (zz ↑ke), .ref mK, .int (zz ↑se), .ref mE, .ref mT, .int (zz ↑tl), .int (zz ↑at_), .ref mD, .int (zz ↑rp), .ref nP, .ref nW, .int (zz ↑rr), .ref nR, .ref nB, .ref mN, .ref mO, .ref mQ, .int (zz dp), .ref mX]), (mP, aI E 21 pg), (mE, aI E 18 sn)]) (wr := [(m, ob 7 [.int (zz ↑np), .ref mP, .ref mW, .int (zz ↑nr), .ref mR, .ref mB, .ref mS, .int (zz ↑ac), .ref mA, .int (zz ↑ke), .ref mK, .int (zz ↑se), .ref mE, .ref mT, .int (zz ↑tl), .int (zz ↑at_), .ref mD, .int (zz ↑rp), .ref nP, .ref nW, .int (zz ↑rr), .ref nR, .ref nB, .ref mN, .ref mO, .ref mQ, .int (zz dp), .ref mX]), (mP, aI E 21 pg), (mE, aI E 18 sn)]) (call_S kX7_88 (c_in E (d + 1) 0 0 1 (by omega) (by omega) (by omega)) rfl (by omega) (by decide) (Nat.le_of_ble_eq_true rfl) (Nat.le_of_ble_eq_true rfl) dX7_may_11) [] [0, 1, 2] [0, 1, 2] rfl rfl rfl rfl rfl rfl rfl ?_
    refine rr_if_neD 19 dX7_may_14 (by decide) (fun c_7 => ?_) (fun c_7 => ?_)
    · skip
      refine rr_iconst dX7_may_19 ?_
      refine rr_istore_n (lv2 := [(0, .ref m), (1, .int (zz ↑i0)), (2, .int (zz 0)), (3, .int (zz 0))]) dX7_may_20 (by decide) rfl ?_
      refine rr_iconst dX7_may_21 ?_
      refine rr_istore (lv2 := [(0, .ref m), (1, .int (zz ↑i0)), (2, .int (zz 0)), (3, .int (zz 0)), (4, .int (zz 0))]) dX7_may_22 (by decide) rfl ?_
      exact lp 4 0 kd (by omega)
    · skip
      exfalso; omega
set_option maxRecDepth 100000 in
set_option maxHeartbeats 400000 in
theorem c_Mmay_1 (E : Ev) (d : Nat) (m mP mW mR mB mS mA mK mE mT mD nP nW nR nB mN mO mQ mX : Nat) (np nr ac ke se tl at_ rp rr : Nat) (dp : Int) (sn sp sc sv kd lf qt wd pg wn : Nat → Int) (hP : PL np kd lf qt wd pg wn) (hpc : pOK np kd lf qt wd) (hS : SL se sp sc sv sn) (hs : sOK se sp sc sv) (i0 : Nat) (hi0 : i0 < np) : SP E mX7_may (d + 2) 0 0 [.ref m, .int (zz ↑i0), .int (zz 1)] [(m, ob 7 [.int (zz ↑np), .ref mP, .ref mW, .int (zz ↑nr), .ref mR, .ref mB, .ref mS, .int (zz ↑ac), .ref mA, .int (zz ↑ke), .ref mK, .int (zz ↑se), .ref mE, .ref mT, .int (zz ↑tl), .int (zz ↑at_), .ref mD, .int (zz ↑rp), .ref nP, .ref nW, .int (zz ↑rr), .ref nR, .ref nB, .ref mN, .ref mO, .ref mQ, .int (zz dp), .ref mX]), (mP, aI E 21 pg), (mE, aI E 18 sn)] (FP (some (.int (zz (↑(bitsTo (may1 se sp sc sv ↑i0 (kd i0)) 10))))) [(m, ob 7 [.int (zz ↑np), .ref mP, .ref mW, .int (zz ↑nr), .ref mR, .ref mB, .ref mS, .int (zz ↑ac), .ref mA, .int (zz ↑ke), .ref mK, .int (zz ↑se), .ref mE, .ref mT, .int (zz ↑tl), .int (zz ↑at_), .ref mD, .int (zz ↑rp), .ref nP, .ref nW, .int (zz ↑rr), .ref nR, .ref nB, .ref mN, .ref mO, .ref mQ, .int (zz dp), .ref mX]), (mP, aI E 21 pg), (mE, aI E 18 sn)]) := by
  show RR E mX7_may (d + 2) 0 0 0 [(0, .ref m), (1, .int (zz ↑i0)), (2, .int (zz 1))] [] [(m, ob 7 [.int (zz ↑np), .ref mP, .ref mW, .int (zz ↑nr), .ref mR, .ref mB, .ref mS, .int (zz ↑ac), .ref mA, .int (zz ↑ke), .ref mK, .int (zz ↑se), .ref mE, .ref mT, .int (zz ↑tl), .int (zz ↑at_), .ref mD, .int (zz ↑rp), .ref nP, .ref nW, .int (zz ↑rr), .ref nR, .ref nB, .ref mN, .ref mO, .ref mQ, .int (zz dp), .ref mX]), (mP, aI E 21 pg), (mE, aI E 18 sn)] (FP (some (.int (zz (↑(bitsTo (may1 se sp sc sv ↑i0 (kd i0)) 10))))) [(m, ob 7 [.int (zz ↑np), .ref mP, .ref mW, .int (zz ↑nr), .ref mR, .ref mB, .ref mS, .int (zz ↑ac), .ref mA, .int (zz ↑ke), .ref mK, .int (zz ↑se), .ref mE, .ref mT, .int (zz ↑tl), .int (zz ↑at_), .ref mD, .int (zz ↑rp), .ref nP, .ref nW, .int (zz ↑rr), .ref nR, .ref nB, .ref mN, .ref mO, .ref mQ, .int (zz dp), .ref mX]), (mP, aI E 21 pg), (mE, aI E 18 sn)])
  have hn := hpc.1
  obtain ⟨k0, u0, t0⟩ := hpc.2.1 i0 hi0
  obtain ⟨p1, p2, p3⟩ := hP.1 i0 hi0
  have lp : ∀ (n i : Nat) (g1 : Nat → Int), i + n = 10 → RR E mX7_may (d + 2) 0 0 24 [(0, .ref m), (1, .int (zz ↑i0)), (2, .int (zz 1)), (3, .int (zz (↑(bitsTo (may1 se sp sc sv ↑i0 (kd i0)) i)))), (4, .int (zz ↑i))] [] [(m, ob 7 [.int (zz ↑np), .ref mP, .ref mW, .int (zz ↑nr), .ref mR, .ref mB, .ref mS, .int (zz ↑ac), .ref mA, .int (zz ↑ke), .ref mK, .int (zz ↑se), .ref mE, .ref mT, .int (zz ↑tl), .int (zz ↑at_), .ref mD, .int (zz ↑rp), .ref nP, .ref nW, .int (zz ↑rr), .ref nR, .ref nB, .ref mN, .ref mO, .ref mQ, .int (zz dp), .ref mX]), (mP, aI E 21 pg), (mE, aI E 18 sn)] (FP (some (.int (zz (↑(bitsTo (may1 se sp sc sv ↑i0 (kd i0)) 10))))) [(m, ob 7 [.int (zz ↑np), .ref mP, .ref mW, .int (zz ↑nr), .ref mR, .ref mB, .ref mS, .int (zz ↑ac), .ref mA, .int (zz ↑ke), .ref mK, .int (zz ↑se), .ref mE, .ref mT, .int (zz ↑tl), .int (zz ↑at_), .ref mD, .int (zz ↑rp), .ref nP, .ref nW, .int (zz ↑rr), .ref nR, .ref nB, .ref mN, .ref mO, .ref mQ, .int (zz dp), .ref mX]), (mP, aI E 21 pg), (mE, aI E 18 sn)]) := by
    intro n
    induction n with
    | zero =>
      intro i g1 h1
      obtain rfl : i = 10 := by omega
      refine rr_iload 4 dX7_may_24 rfl ?_
      refine rr_iload_n 2 dX7_may_26 rfl ?_
      refine rr_if_ne 34 dX7_may_27 (by decide) (by omega) (fun c_1 => ?_) (fun c_1 => ?_)
      · skip
        refine rr_bipush dX7_may_34 (by decide) ?_
        refine rr_icmp_ge 102 dX7_may_36 (by decide) (by omega) (by omega) (fun c_2 => ?_) (fun c_2 => ?_)
        · skip
          refine rr_iload_n 3 dX7_may_102 rfl ?_
          exact rr_iret dX7_may_103 rfl rfl ⟨rfl, rfl⟩
        · skip
          exfalso; omega
      · skip
        exfalso; omega
    | succ n ih =>
      intro i g1 h1
      have hi : i < 10 := by omega
      refine rr_iload 4 dX7_may_24 rfl ?_
      refine rr_iload_n 2 dX7_may_26 rfl ?_
      refine rr_if_ne 34 dX7_may_27 (by decide) (by omega) (fun c_3 => ?_) (fun c_3 => ?_)
      · skip
        refine rr_bipush dX7_may_34 (by decide) ?_
        refine rr_icmp_ge 102 dX7_may_36 (by decide) (by omega) (by omega) (fun c_4 => ?_) (fun c_4 => ?_)
        · skip
          exfalso; omega
        · skip
          refine rr_iload_n 2 dX7_may_39 rfl ?_
          refine rr_if_ne 63 dX7_may_40 (by decide) (by omega) (fun c_5 => ?_) (fun c_5 => ?_)
          · skip
            refine rr_aload_n 0 dX7_may_63 rfl ?_
            refine rr_iload_n 1 dX7_may_64 rfl ?_
            refine rr_aload_n 0 dX7_may_65 rfl ?_
            refine rr_get fX7_7 0 rfl rfl dX7_may_66 ?_
            refine rr_iconst dX7_may_69 ?_
            refine rr_iload_n 1 dX7_may_70 rfl ?_
            refine rr_imul dX7_may_71 ?_
            refine rr_iald 1 (3 * i0) rfl (by omega) (by omega) (by omega) dX7_may_72 ?_
            refine rr_iload 4 dX7_may_73 rfl ?_
            refine rr_callFi (ws2 := [(m, ob 7 [.int (zz ↑np), .ref mP, .ref mW, .int (zz ↑nr), .ref mR, .ref mB, .ref mS, .int (zz ↑ac), .ref mA, .int (zz ↑ke), .ref mK, .int (zz ↑se), .ref mE, .ref mT, .int (zz ↑tl), .int (zz ↑at_), .ref mD, .int (zz ↑rp), .ref nP, .ref nW, .int (zz ↑rr), .ref nR, .ref nB, .ref mN, .ref mO, .ref mQ, .int (zz dp), .ref mX]), (mP, aI E 21 pg), (mE, aI E 18 sn)]) (wr := [(mP, aI E 21 pg)]) (call_V (q0 := 0) kX7_219 (c_isSo E (d + 0) m mP mW mR mB mS mA mK mE mT mD nP nW nR nB mN mO mQ mX np nr ac ke se tl at_ rp rr dp sn sp sc sv ↑i0 (pg (3 * i0)) ↑i hS hs (by omega) (by omega) (by omega)) rfl rfl rfl rfl (by omega) (by decide) (Nat.le_of_ble_eq_true rfl) (Nat.le_of_ble_eq_true rfl) dX7_may_75) [0, 2] [1] [1, 0, 2] rfl rfl rfl rfl rfl rfl rfl ?_
            refine rr_istore (lv2 := [(0, .ref m), (1, .int (zz ↑i0)), (2, .int (zz 1)), (3, .int (zz (↑(bitsTo (may1 se sp sc sv ↑i0 (kd i0)) i)))), (4, .int (zz ↑i)), (5, .int (zz (bI (!anyTo (notF sp sc sv ↑i0 (pg (3 * i0)) ↑i) se))))]) dX7_may_78 (by decide) rfl ?_
            refine rr_iload_n 3 dX7_may_80 rfl ?_
            refine rr_iload 5 dX7_may_81 rfl ?_
            refine rr_if_eqB 93 dX7_may_83 (by decide) (fun hal => ?_) (fun hal => ?_)
            · skip
              refine rr_iconst dX7_may_93 ?_
              refine rr_ior (a := bitsTo (may1 se sp sc sv ↑i0 (kd i0)) i) (b := 0) dX7_may_94 ?_
              refine rr_top (b := ↑(bitsTo (may1 se sp sc sv ↑i0 (kd i0)) (i + 1))) (by rw [Nat.or_zero, bitsTo, if_neg (by unfold may1; rw [← p1]; intro z; exact absurd (z.symm.trans hal) (by decide))]) ?_
              refine rr_istore_n (lv2 := [(0, .ref m), (1, .int (zz ↑i0)), (2, .int (zz 1)), (3, .int (zz (↑(bitsTo (may1 se sp sc sv ↑i0 (kd i0)) (i + 1))))), (4, .int (zz ↑i)), (5, .int (zz (bI (!anyTo (notF sp sc sv ↑i0 (pg (3 * i0)) ↑i) se))))]) dX7_may_95 (by decide) rfl ?_
              refine rr_iinc (lv2 := [(0, .ref m), (1, .int (zz ↑i0)), (2, .int (zz 1)), (3, .int (zz (↑(bitsTo (may1 se sp sc sv ↑i0 (kd i0)) (i + 1))))), (4, .int (zz (↑(i + 1)))), (5, .int (zz (bI (!anyTo (notF sp sc sv ↑i0 (pg (3 * i0)) ↑i) se))))]) 4 dX7_may_96 rfl (by decide) rfl ?_
              refine rr_goto 24 dX7_may_99 (by decide) ?_
              refine RR.lv [0, 1, 2, 3, 4] rfl ?_
              exact ih (i + 1) g1 (by omega)
            · skip
              refine rr_iconst dX7_may_86 ?_
              refine rr_iload 4 dX7_may_87 rfl ?_
              refine rr_ishl (n := 1) (k := i) dX7_may_89 (by omega) (by have := Nat.pow_le_pow_right (n := 2) (by omega) (show i ≤ 9 by omega); omega) ?_
              refine rr_top (b := ((2 ^ i : Nat) : Int)) (by rw [Nat.one_mul]) ?_
              refine rr_goto 94 dX7_may_90 (by decide) ?_
              refine rr_ior (a := bitsTo (may1 se sp sc sv ↑i0 (kd i0)) i) (b := 2 ^ i) dX7_may_94 ?_
              refine rr_top (b := ↑(bitsTo (may1 se sp sc sv ↑i0 (kd i0)) (i + 1))) (by rw [bitsTo, if_pos (by unfold may1; rw [← p1]; exact hal)]) ?_
              refine rr_istore_n (lv2 := [(0, .ref m), (1, .int (zz ↑i0)), (2, .int (zz 1)), (3, .int (zz (↑(bitsTo (may1 se sp sc sv ↑i0 (kd i0)) (i + 1))))), (4, .int (zz ↑i)), (5, .int (zz (bI (!anyTo (notF sp sc sv ↑i0 (pg (3 * i0)) ↑i) se))))]) dX7_may_95 (by decide) rfl ?_
              refine rr_iinc (lv2 := [(0, .ref m), (1, .int (zz ↑i0)), (2, .int (zz 1)), (3, .int (zz (↑(bitsTo (may1 se sp sc sv ↑i0 (kd i0)) (i + 1))))), (4, .int (zz (↑(i + 1)))), (5, .int (zz (bI (!anyTo (notF sp sc sv ↑i0 (pg (3 * i0)) ↑i) se))))]) 4 dX7_may_96 rfl (by decide) rfl ?_
              refine rr_goto 24 dX7_may_99 (by decide) ?_
              refine RR.lv [0, 1, 2, 3, 4] rfl ?_
              exact ih (i + 1) g1 (by omega)
          · skip
            exfalso; omega
      · skip
        exfalso; omega
  refine rr_aload_n 0 dX7_may_0 rfl ?_
  refine rr_iload_n 1 dX7_may_1 rfl ?_
  refine rr_callFi (ws2 := [(m, ob 7 [.int (zz ↑np), .ref mP, .ref mW, .int (zz ↑nr), .ref mR, .ref mB, .ref mS, .int (zz ↑ac), .ref mA, .int (zz ↑ke), .ref mK, .int (zz ↑se), .ref mE, .ref mT, .int (zz ↑tl), .int (zz ↑at_), .ref mD, .int (zz ↑rp), .ref nP, .ref nW, .int (zz ↑rr), .ref nR, .ref nB, .ref mN, .ref mO, .ref mQ, .int (zz dp), .ref mX]), (mP, aI E 21 pg), (mE, aI E 18 sn)]) (wr := [(mP, aI E 21 pg), (mE, aI E 18 sn)]) (call_V (q0 := 0) kX7_177 (c_MisPeg E (d + 0) m mP mW mR mB mS mA mK mE mT mD nP nW nR nB mN mO mQ mX np nr ac ke se tl at_ rp rr dp ↑i0 (by omega) (by omega)) rfl rfl rfl rfl (by omega) (by decide) (Nat.le_of_ble_eq_true rfl) (Nat.le_of_ble_eq_true rfl) dX7_may_2) [0] [1, 2] [2, 0, 1] rfl rfl rfl rfl rfl rfl rfl ?_
  refine rr_if_eqD 17 dX7_may_5 (by decide) (fun c_6 => ?_) (fun c_6 => ?_)
  · skip
    exfalso; omega
  · skip
    refine rr_iload_n 2 dX7_may_8 rfl ?_
    refine rr_iconst dX7_may_9 ?_
    refine rr_iconst dX7_may_10 ?_
    refine rr_callFi (ws2 := [(m, ob 7 [.int (zz ↑np), .ref mP, .ref mW, .int (zz ↑nr), .ref mR, .ref mB, .ref mS, .int (zz ↑ac), .ref mA, .int (zz ↑ke), .ref mK, .int (zz ↑se), .ref mE, .ref mT, .int (zz ↑tl), .int (zz ↑at_), .ref mD, .int (zz ↑rp), .ref nP, .ref nW, .int (zz ↑rr), .ref nR, .ref nB, .ref mN, .ref mO, .ref mQ, .int (zz dp), .ref mX]), (mP, aI E 21 pg), (mE, aI E 18 sn)]) (wr := [(m, ob 7 [.int (zz ↑np), .ref mP, .ref mW, .int (zz ↑nr), .ref mR, .ref mB, .ref mS, .int (zz ↑ac), .ref mA, .int (zz ↑ke), .ref mK, .int (zz ↑se), .ref mE, .ref mT, .int (zz ↑tl), .int (zz ↑at_), .ref mD, .int (zz ↑rp), .ref nP, .ref nW, .int (zz ↑rr), .ref nR, .ref nB, .ref mN, .ref mO, .ref mQ, .int (zz dp), .ref mX]), (mP, aI E 21 pg), (mE, aI E 18 sn)]) (call_S kX7_88 (c_in E (d + 1) 1 0 1 (by omega) (by omega) (by omega)) rfl (by omega) (by decide) (Nat.le_of_ble_eq_true rfl) (Nat.le_of_ble_eq_true rfl) dX7_may_11) [] [0, 1, 2] [0, 1, 2] rfl rfl rfl rfl rfl rfl rfl ?_
    refine rr_if_neD 19 dX7_may_14 (by decide) (fun c_7 => ?_) (fun c_7 => ?_)
    · skip
      refine rr_iconst dX7_may_19 ?_
      refine rr_istore_n (lv2 := [(0, .ref m), (1, .int (zz ↑i0)), (2, .int (zz 1)), (3, .int (zz 0))]) dX7_may_20 (by decide) rfl ?_
      refine rr_iconst dX7_may_21 ?_
      refine rr_istore (lv2 := [(0, .ref m), (1, .int (zz ↑i0)), (2, .int (zz 1)), (3, .int (zz 0)), (4, .int (zz 0))]) dX7_may_22 (by decide) rfl ?_
      exact lp 10 0 kd (by omega)
    · skip
      exfalso; omega
set_option maxRecDepth 100000 in
set_option maxHeartbeats 400000 in
theorem c_Mwhich_bad (E : Ev) (d : Nat) (m mP mW mR mB mS mA mK mE mT mD nP nW nR nB mN mO mQ mX : Nat) (np nr ac ke se tl at_ rp rr : Nat) (dp : Int) (x1 y1 z1 : Int) (gx1 : -2147483648 ≤ x1 ∧ x1 < 2147483648) (gy1 : -2147483648 ≤ y1 ∧ y1 < 2147483648) (gz1 : -2147483648 ≤ z1 ∧ z1 < 2147483648) (hc : ¬ (0 ≤ x1 ∧ x1 ≤ 9 ∧ 0 ≤ y1 ∧ y1 ≤ 9 ∧ 0 ≤ z1 ∧ z1 ≤ 9)) : SP E mX7_which (d + 4) 0 0 [.ref m, .int (zz x1), .int (zz y1), .int (zz z1)] [(m, ob 7 [.int (zz ↑np), .ref mP, .ref mW, .int (zz ↑nr), .ref mR, .ref mB, .ref mS, .int (zz ↑ac), .ref mA, .int (zz ↑ke), .ref mK, .int (zz ↑se), .ref mE, .ref mT, .int (zz ↑tl), .int (zz ↑at_), .ref mD, .int (zz ↑rp), .ref nP, .ref nW, .int (zz ↑rr), .ref nR, .ref nB, .ref mN, .ref mO, .ref mQ, .int (zz dp), .ref mX])] (FP (some (.int (zz (-1)))) [(m, ob 7 [.int (zz ↑np), .ref mP, .ref mW, .int (zz ↑nr), .ref mR, .ref mB, .ref mS, .int (zz ↑ac), .ref mA, .int (zz ↑ke), .ref mK, .int (zz ↑se), .ref mE, .ref mT, .int (zz ↑tl), .int (zz ↑at_), .ref mD, .int (zz ↑rp), .ref nP, .ref nW, .int (zz ↑rr), .ref nR, .ref nB, .ref mN, .ref mO, .ref mQ, .int (zz dp), .ref mX])]) := by
  show RR E mX7_which (d + 4) 0 0 0 [(0, .ref m), (1, .int (zz x1)), (2, .int (zz y1)), (3, .int (zz z1))] [] [(m, ob 7 [.int (zz ↑np), .ref mP, .ref mW, .int (zz ↑nr), .ref mR, .ref mB, .ref mS, .int (zz ↑ac), .ref mA, .int (zz ↑ke), .ref mK, .int (zz ↑se), .ref mE, .ref mT, .int (zz ↑tl), .int (zz ↑at_), .ref mD, .int (zz ↑rp), .ref nP, .ref nW, .int (zz ↑rr), .ref nR, .ref nB, .ref mN, .ref mO, .ref mQ, .int (zz dp), .ref mX])] (FP (some (.int (zz (-1)))) [(m, ob 7 [.int (zz ↑np), .ref mP, .ref mW, .int (zz ↑nr), .ref mR, .ref mB, .ref mS, .int (zz ↑ac), .ref mA, .int (zz ↑ke), .ref mK, .int (zz ↑se), .ref mE, .ref mT, .int (zz ↑tl), .int (zz ↑at_), .ref mD, .int (zz ↑rp), .ref nP, .ref nW, .int (zz ↑rr), .ref nR, .ref nB, .ref mN, .ref mO, .ref mQ, .int (zz dp), .ref mX])])
  refine rr_iload_n 1 dX7_which_0 rfl ?_
  refine rr_iconst dX7_which_1 ?_
  refine rr_bipush dX7_which_2 (by decide) ?_
  refine rr_callFi (ws2 := [(m, ob 7 [.int (zz ↑np), .ref mP, .ref mW, .int (zz ↑nr), .ref mR, .ref mB, .ref mS, .int (zz ↑ac), .ref mA, .int (zz ↑ke), .ref mK, .int (zz ↑se), .ref mE, .ref mT, .int (zz ↑tl), .int (zz ↑at_), .ref mD, .int (zz ↑rp), .ref nP, .ref nW, .int (zz ↑rr), .ref nR, .ref nB, .ref mN, .ref mO, .ref mQ, .int (zz dp), .ref mX])]) (wr := [(m, ob 7 [.int (zz ↑np), .ref mP, .ref mW, .int (zz ↑nr), .ref mR, .ref mB, .ref mS, .int (zz ↑ac), .ref mA, .int (zz ↑ke), .ref mK, .int (zz ↑se), .ref mE, .ref mT, .int (zz ↑tl), .int (zz ↑at_), .ref mD, .int (zz ↑rp), .ref nP, .ref nW, .int (zz ↑rr), .ref nR, .ref nB, .ref mN, .ref mO, .ref mQ, .int (zz dp), .ref mX])]) (call_S kX7_88 (c_in E (d + 3) x1 0 9 (by omega) (by omega) (by omega)) rfl (by omega) (by decide) (Nat.le_of_ble_eq_true rfl) (Nat.le_of_ble_eq_true rfl) dX7_which_4) [] [0] [0] rfl rfl rfl rfl rfl rfl rfl ?_
  refine rr_if_eqD 30 dX7_which_7 (by decide) (fun c_1 => ?_) (fun c_1 => ?_)
  · skip
    refine rr_iconst dX7_which_30 ?_
    exact rr_iret dX7_which_31 rfl rfl ⟨rfl, rfl⟩
  · skip
    refine rr_iload_n 2 dX7_which_10 rfl ?_
    refine rr_iconst dX7_which_11 ?_
    refine rr_bipush dX7_which_12 (by decide) ?_
    refine rr_callFi (ws2 := [(m, ob 7 [.int (zz ↑np), .ref mP, .ref mW, .int (zz ↑nr), .ref mR, .ref mB, .ref mS, .int (zz ↑ac), .ref mA, .int (zz ↑ke), .ref mK, .int (zz ↑se), .ref mE, .ref mT, .int (zz ↑tl), .int (zz ↑at_), .ref mD, .int (zz ↑rp), .ref nP, .ref nW, .int (zz ↑rr), .ref nR, .ref nB, .ref mN, .ref mO, .ref mQ, .int (zz dp), .ref mX])]) (wr := [(m, ob 7 [.int (zz ↑np), .ref mP, .ref mW, .int (zz ↑nr), .ref mR, .ref mB, .ref mS, .int (zz ↑ac), .ref mA, .int (zz ↑ke), .ref mK, .int (zz ↑se), .ref mE, .ref mT, .int (zz ↑tl), .int (zz ↑at_), .ref mD, .int (zz ↑rp), .ref nP, .ref nW, .int (zz ↑rr), .ref nR, .ref nB, .ref mN, .ref mO, .ref mQ, .int (zz dp), .ref mX])]) (call_S kX7_88 (c_in E (d + 3) y1 0 9 (by omega) (by omega) (by omega)) rfl (by omega) (by decide) (Nat.le_of_ble_eq_true rfl) (Nat.le_of_ble_eq_true rfl) dX7_which_14) [] [0] [0] rfl rfl rfl rfl rfl rfl rfl ?_
    refine rr_if_eqD 30 dX7_which_17 (by decide) (fun c_2 => ?_) (fun c_2 => ?_)
    · skip
      refine rr_iconst dX7_which_30 ?_
      exact rr_iret dX7_which_31 rfl rfl ⟨rfl, rfl⟩
    · skip
      refine rr_iload_n 3 dX7_which_20 rfl ?_
      refine rr_iconst dX7_which_21 ?_
      refine rr_bipush dX7_which_22 (by decide) ?_
      refine rr_callFi (ws2 := [(m, ob 7 [.int (zz ↑np), .ref mP, .ref mW, .int (zz ↑nr), .ref mR, .ref mB, .ref mS, .int (zz ↑ac), .ref mA, .int (zz ↑ke), .ref mK, .int (zz ↑se), .ref mE, .ref mT, .int (zz ↑tl), .int (zz ↑at_), .ref mD, .int (zz ↑rp), .ref nP, .ref nW, .int (zz ↑rr), .ref nR, .ref nB, .ref mN, .ref mO, .ref mQ, .int (zz dp), .ref mX])]) (wr := [(m, ob 7 [.int (zz ↑np), .ref mP, .ref mW, .int (zz ↑nr), .ref mR, .ref mB, .ref mS, .int (zz ↑ac), .ref mA, .int (zz ↑ke), .ref mK, .int (zz ↑se), .ref mE, .ref mT, .int (zz ↑tl), .int (zz ↑at_), .ref mD, .int (zz ↑rp), .ref nP, .ref nW, .int (zz ↑rr), .ref nR, .ref nB, .ref mN, .ref mO, .ref mQ, .int (zz dp), .ref mX])]) (call_S kX7_88 (c_in E (d + 3) z1 0 9 (by omega) (by omega) (by omega)) rfl (by omega) (by decide) (Nat.le_of_ble_eq_true rfl) (Nat.le_of_ble_eq_true rfl) dX7_which_24) [] [0] [0] rfl rfl rfl rfl rfl rfl rfl ?_
      refine rr_if_neD 32 dX7_which_27 (by decide) (fun c_3 => ?_) (fun c_3 => ?_)
      · skip
        exfalso; omega
      · skip
        refine rr_iconst dX7_which_30 ?_
        exact rr_iret dX7_which_31 rfl rfl ⟨rfl, rfl⟩
set_option maxRecDepth 100000 in
set_option maxHeartbeats 400000 in
theorem c_Mwhich_y (E : Ev) (d : Nat) (m mP mW mR mB mS mA mK mE mT mD nP nW nR nB mN mO mQ mX : Nat) (np nr ac ke se tl at_ rp rr : Nat) (dp : Int) (pg wn ro nw st kd lf qt wd rx ry h : Nat → Int) (hP : PL np kd lf qt wd pg wn) (hpc : pOK np kd lf qt wd) (hRo : RoL nr rx ry ro) (hrc : rOK nr rx ry) (hA : AG 7 st (amF h)) (ho : hOK h) (hv : hV np h) (bgs sh : Nat → Int) (hB : AG 7 bgs (amF sh)) (hso : hOK sh) (hsv : hV np sh) (x1 y1 z1 : Int) (hc : 0 ≤ x1 ∧ x1 ≤ 9 ∧ 0 ≤ y1 ∧ y1 ≤ 9 ∧ 0 ≤ z1 ∧ z1 ≤ 9) : SP E mX7_which (d + 4) 0 0 [.ref m, .int (zz x1), .int (zz y1), .int (zz z1)] [(m, ob 7 [.int (zz ↑np), .ref mP, .ref mW, .int (zz ↑nr), .ref mR, .ref mB, .ref mS, .int (zz ↑ac), .ref mA, .int (zz ↑ke), .ref mK, .int (zz ↑se), .ref mE, .ref mT, .int (zz ↑tl), .int (zz ↑at_), .ref mD, .int (zz ↑rp), .ref nP, .ref nW, .int (zz ↑rr), .ref nR, .ref nB, .ref mN, .ref mO, .ref mQ, .int (zz dp), .ref mX]), (mP, aI E 21 pg), (mW, aI E 10 wn), (mB, aI E 7 bgs), (mN, aI E 7 nw)] (fun v w1 => v = some (.int (zz ((bitsTo (whi1 np kd lf qt wd sh x1 y1 z1) np : Nat) : Int))) ∧ ∃ g1 : Nat → Int, w1 = [(m, ob 7 [.int (zz ↑np), .ref mP, .ref mW, .int (zz ↑nr), .ref mR, .ref mB, .ref mS, .int (zz ↑ac), .ref mA, .int (zz ↑ke), .ref mK, .int (zz ↑se), .ref mE, .ref mT, .int (zz ↑tl), .int (zz ↑at_), .ref mD, .int (zz ↑rp), .ref nP, .ref nW, .int (zz ↑rr), .ref nR, .ref nB, .ref mN, .ref mO, .ref mQ, .int (zz dp), .ref mX]), (mP, aI E 21 pg), (mW, aI E 10 wn), (mB, aI E 7 bgs), (mN, aI E 7 g1)]) := by
  show RR E mX7_which (d + 4) 0 0 0 [(0, .ref m), (1, .int (zz x1)), (2, .int (zz y1)), (3, .int (zz z1))] [] [(m, ob 7 [.int (zz ↑np), .ref mP, .ref mW, .int (zz ↑nr), .ref mR, .ref mB, .ref mS, .int (zz ↑ac), .ref mA, .int (zz ↑ke), .ref mK, .int (zz ↑se), .ref mE, .ref mT, .int (zz ↑tl), .int (zz ↑at_), .ref mD, .int (zz ↑rp), .ref nP, .ref nW, .int (zz ↑rr), .ref nR, .ref nB, .ref mN, .ref mO, .ref mQ, .int (zz dp), .ref mX]), (mP, aI E 21 pg), (mW, aI E 10 wn), (mB, aI E 7 bgs), (mN, aI E 7 nw)] (fun v w1 => v = some (.int (zz ((bitsTo (whi1 np kd lf qt wd sh x1 y1 z1) np : Nat) : Int))) ∧ ∃ g1 : Nat → Int, w1 = [(m, ob 7 [.int (zz ↑np), .ref mP, .ref mW, .int (zz ↑nr), .ref mR, .ref mB, .ref mS, .int (zz ↑ac), .ref mA, .int (zz ↑ke), .ref mK, .int (zz ↑se), .ref mE, .ref mT, .int (zz ↑tl), .int (zz ↑at_), .ref mD, .int (zz ↑rp), .ref nP, .ref nW, .int (zz ↑rr), .ref nR, .ref nB, .ref mN, .ref mO, .ref mQ, .int (zz dp), .ref mX]), (mP, aI E 21 pg), (mW, aI E 10 wn), (mB, aI E 7 bgs), (mN, aI E 7 g1)])
  have hp := hP.ok hpc
  have hr := hRo.ok hrc
  have hn := hpc.1
  have hr1 := hrc.1
  have hs := hA.ok ho hv
  obtain ⟨o0, o1, o2, o3, o5, o6⟩ := id ho
  obtain ⟨e0, e1, e2, e3, e4, e5, e6⟩ := hA.all
  have hbm : mOK np bgs := hB.ok hso hsv
  have lp : ∀ (n i : Nat) (g1 : Nat → Int), i + n = np → RR E mX7_which (d + 4) 0 0 38 [(0, .ref m), (1, .int (zz x1)), (2, .int (zz y1)), (3, .int (zz z1)), (4, .int (zz (↑(bitsTo (whi1 np kd lf qt wd sh x1 y1 z1) i)))), (5, .int (zz ↑i))] [] [(m, ob 7 [.int (zz ↑np), .ref mP, .ref mW, .int (zz ↑nr), .ref mR, .ref mB, .ref mS, .int (zz ↑ac), .ref mA, .int (zz ↑ke), .ref mK, .int (zz ↑se), .ref mE, .ref mT, .int (zz ↑tl), .int (zz ↑at_), .ref mD, .int (zz ↑rp), .ref nP, .ref nW, .int (zz ↑rr), .ref nR, .ref nB, .ref mN, .ref mO, .ref mQ, .int (zz dp), .ref mX]), (mP, aI E 21 pg), (mW, aI E 10 wn), (mB, aI E 7 bgs), (mN, aI E 7 g1)] (fun v w1 => v = some (.int (zz ((bitsTo (whi1 np kd lf qt wd sh x1 y1 z1) np : Nat) : Int))) ∧ ∃ g1 : Nat → Int, w1 = [(m, ob 7 [.int (zz ↑np), .ref mP, .ref mW, .int (zz ↑nr), .ref mR, .ref mB, .ref mS, .int (zz ↑ac), .ref mA, .int (zz ↑ke), .ref mK, .int (zz ↑se), .ref mE, .ref mT, .int (zz ↑tl), .int (zz ↑at_), .ref mD, .int (zz ↑rp), .ref nP, .ref nW, .int (zz ↑rr), .ref nR, .ref nB, .ref mN, .ref mO, .ref mQ, .int (zz dp), .ref mX]), (mP, aI E 21 pg), (mW, aI E 10 wn), (mB, aI E 7 bgs), (mN, aI E 7 g1)]) := by
    intro n
    induction n with
    | zero =>
      intro i g1 h1
      obtain rfl : i = np := by omega
      refine rr_iload 5 dX7_which_38 rfl ?_
      refine rr_aload_n 0 dX7_which_40 rfl ?_
      refine rr_get fX7_85 0 rfl rfl dX7_which_41 ?_
      refine rr_icmp_ge 110 dX7_which_44 (by decide) (by omega) (by omega) (fun c_1 => ?_) (fun c_1 => ?_)
      · skip
        refine rr_iload 4 dX7_which_110 rfl ?_
        exact rr_iret dX7_which_112 rfl rfl ⟨rfl, g1, rfl⟩
      · skip
        exfalso; omega
    | succ n ih =>
      intro i g1 h1
      have hi : i < np := by omega
      refine rr_iload 5 dX7_which_38 rfl ?_
      refine rr_aload_n 0 dX7_which_40 rfl ?_
      refine rr_get fX7_85 0 rfl rfl dX7_which_41 ?_
      refine rr_icmp_ge 110 dX7_which_44 (by decide) (by omega) (by omega) (fun c_2 => ?_) (fun c_2 => ?_)
      · skip
        exfalso; omega
      · skip
        refine rr_aload_n 0 dX7_which_47 rfl ?_
        refine rr_aload_n 0 dX7_which_48 rfl ?_
        refine rr_get fX7_19 0 rfl rfl dX7_which_49 ?_
        have ke_3 : cpI g1 0 bgs 0 7 0 = bgs 0 := rfl
        have ke_4 : cpI g1 0 bgs 0 7 1 = bgs 1 := rfl
        have ke_5 : cpI g1 0 bgs 0 7 2 = bgs 2 := rfl
        have ke_6 : cpI g1 0 bgs 0 7 3 = bgs 3 := rfl
        have ke_7 : cpI g1 0 bgs 0 7 4 = bgs 4 := rfl
        have ke_8 : cpI g1 0 bgs 0 7 5 = bgs 5 := rfl
        have ke_9 : cpI g1 0 bgs 0 7 6 = bgs 6 := rfl
        have hA10 : AG 7 (cpI g1 0 bgs 0 7) (amF sh) := cp7 hB
        have ho10 : hOK sh := hso
        have hv10 : hV np sh := hsv
        have hm10 : mOK np (cpI g1 0 bgs 0 7) := hA10.ok ho10 hv10
        obtain ⟨ea10, eb10, ec10, ed10, ee10, ef10, eg10⟩ := hA10.all
        obtain ⟨na10, nb10, nc10, nd10, nf10, ng10⟩ := id hm10
        refine rr_callFv (ws2 := [(m, ob 7 [.int (zz ↑np), .ref mP, .ref mW, .int (zz ↑nr), .ref mR, .ref mB, .ref mS, .int (zz ↑ac), .ref mA, .int (zz ↑ke), .ref mK, .int (zz ↑se), .ref mE, .ref mT, .int (zz ↑tl), .int (zz ↑at_), .ref mD, .int (zz ↑rp), .ref nP, .ref nW, .int (zz ↑rr), .ref nR, .ref nB, .ref mN, .ref mO, .ref mQ, .int (zz dp), .ref mX]), (mP, aI E 21 pg), (mW, aI E 10 wn), (mB, aI E 7 bgs), (mN, aI E 7 (cpI g1 0 bgs 0 7))]) (wr := [(mP, aI E 21 pg), (mW, aI E 10 wn)]) (call_V (q0 := 0) kX7_180 (c_from E (d + 2) m mP mW mR mB mS mA mK mE mT mD nP nW nR nB mN mO mQ mX np nr ac ke se tl at_ rp rr dp mB g1 bgs) rfl rfl rfl rfl (by omega) (by decide) (Nat.le_of_ble_eq_true rfl) (Nat.le_of_ble_eq_true rfl) dX7_which_52) [0, 4, 3] [1, 2] [2, 0, 1, 4, 3] rfl rfl rfl rfl rfl rfl rfl ?_
        refine rr_aload_n 0 dX7_which_55 rfl ?_
        refine rr_iload 5 dX7_which_56 rfl ?_
        have hA11 : AG 7 (tnM pg wn (cpI g1 0 bgs 0 7) i) (amF (tnF np kd lf qt wd sh i)) := tn_rel hP hpc hv10 hA10 (by omega)
        have ho11 : hOK (tnF np kd lf qt wd sh i) := tnF_ok hpc ho10 (by omega)
        have hv11 : hV np (tnF np kd lf qt wd sh i) := tnF_hV (by omega)
        have hm11 : mOK np (tnM pg wn (cpI g1 0 bgs 0 7) i) := hA11.ok ho11 hv11
        obtain ⟨ea11, eb11, ec11, ed11, ee11, ef11, eg11⟩ := hA11.all
        obtain ⟨na11, nb11, nc11, nd11, nf11, ng11⟩ := id hm11
        refine rr_callFv (ws2 := [(m, ob 7 [.int (zz ↑np), .ref mP, .ref mW, .int (zz ↑nr), .ref mR, .ref mB, .ref mS, .int (zz ↑ac), .ref mA, .int (zz ↑ke), .ref mK, .int (zz ↑se), .ref mE, .ref mT, .int (zz ↑tl), .int (zz ↑at_), .ref mD, .int (zz ↑rp), .ref nP, .ref nW, .int (zz ↑rr), .ref nR, .ref nB, .ref mN, .ref mO, .ref mQ, .int (zz dp), .ref mX]), (mP, aI E 21 pg), (mW, aI E 10 wn), (mB, aI E 7 bgs), (mN, aI E 7 (tnM pg wn (cpI g1 0 bgs 0 7) i))]) (wr := [(mB, aI E 7 bgs)]) (call_V (q0 := 0) kX7_190 (c_turns E (d + 0) m mP mW mR mB mS mA mK mE mT mD nP nW nR nB mN mO mQ mX np nr ac ke se tl at_ rp rr dp pg wn (cpI g1 0 bgs 0 7) i hp hm10 (by omega)) rfl rfl rfl rfl (by omega) (by decide) (Nat.le_of_ble_eq_true rfl) (Nat.le_of_ble_eq_true rfl) dX7_which_58) [0, 1, 2, 4] [3] [1, 2, 3, 0, 4] rfl rfl rfl rfl rfl rfl rfl ?_
        refine rr_iload 4 dX7_which_61 rfl ?_
        refine rr_aload_n 0 dX7_which_63 rfl ?_
        refine rr_get fX7_52 0 rfl rfl dX7_which_64 ?_
        refine rr_iconst dX7_which_67 ?_
        refine rr_iald 4 0 rfl rfl (by omega) (by omega) dX7_which_68 ?_
        refine rr_iload_n 1 dX7_which_69 rfl ?_
        refine rr_icmp_ne 100 dX7_which_70 (by decide) (by omega) (by omega) (fun c_12 => ?_) (fun c_12 => ?_)
        · skip
          refine rr_iconst dX7_which_100 ?_
          refine rr_ior (a := bitsTo (whi1 np kd lf qt wd sh x1 y1 z1) i) (b := 0) dX7_which_101 ?_
          refine rr_top (b := ↑(bitsTo (whi1 np kd lf qt wd sh x1 y1 z1) (i + 1))) (by rw [Nat.or_zero, bitsTo, if_neg (by unfold whi1; simp only [decide_eq_true_eq]; omega)]) ?_
          refine rr_istore (lv2 := [(0, .ref m), (1, .int (zz x1)), (2, .int (zz y1)), (3, .int (zz z1)), (4, .int (zz (↑(bitsTo (whi1 np kd lf qt wd sh x1 y1 z1) (i + 1))))), (5, .int (zz ↑i))]) dX7_which_102 (by decide) rfl ?_
          refine rr_iinc (lv2 := [(0, .ref m), (1, .int (zz x1)), (2, .int (zz y1)), (3, .int (zz z1)), (4, .int (zz (↑(bitsTo (whi1 np kd lf qt wd sh x1 y1 z1) (i + 1))))), (5, .int (zz (↑(i + 1))))]) 5 dX7_which_104 rfl (by decide) rfl ?_
          refine rr_goto 38 dX7_which_107 (by decide) ?_
          exact ih (i + 1) (tnM pg wn (cpI g1 0 bgs 0 7) i) (by omega)
        · skip
          refine rr_aload_n 0 dX7_which_73 rfl ?_
          refine rr_get fX7_52 0 rfl rfl dX7_which_74 ?_
          refine rr_iconst dX7_which_77 ?_
          refine rr_iald 4 1 rfl rfl (by omega) (by omega) dX7_which_78 ?_
          refine rr_iload_n 2 dX7_which_79 rfl ?_
          refine rr_icmp_ne 100 dX7_which_80 (by decide) (by omega) (by omega) (fun c_13 => ?_) (fun c_13 => ?_)
          · skip
            refine rr_iconst dX7_which_100 ?_
            refine rr_ior (a := bitsTo (whi1 np kd lf qt wd sh x1 y1 z1) i) (b := 0) dX7_which_101 ?_
            refine rr_top (b := ↑(bitsTo (whi1 np kd lf qt wd sh x1 y1 z1) (i + 1))) (by rw [Nat.or_zero, bitsTo, if_neg (by unfold whi1; simp only [decide_eq_true_eq]; omega)]) ?_
            refine rr_istore (lv2 := [(0, .ref m), (1, .int (zz x1)), (2, .int (zz y1)), (3, .int (zz z1)), (4, .int (zz (↑(bitsTo (whi1 np kd lf qt wd sh x1 y1 z1) (i + 1))))), (5, .int (zz ↑i))]) dX7_which_102 (by decide) rfl ?_
            refine rr_iinc (lv2 := [(0, .ref m), (1, .int (zz x1)), (2, .int (zz y1)), (3, .int (zz z1)), (4, .int (zz (↑(bitsTo (whi1 np kd lf qt wd sh x1 y1 z1) (i + 1))))), (5, .int (zz (↑(i + 1))))]) 5 dX7_which_104 rfl (by decide) rfl ?_
            refine rr_goto 38 dX7_which_107 (by decide) ?_
            exact ih (i + 1) (tnM pg wn (cpI g1 0 bgs 0 7) i) (by omega)
          · skip
            refine rr_aload_n 0 dX7_which_83 rfl ?_
            refine rr_get fX7_52 0 rfl rfl dX7_which_84 ?_
            refine rr_iconst dX7_which_87 ?_
            refine rr_iald 4 2 rfl rfl (by omega) (by omega) dX7_which_88 ?_
            refine rr_iload_n 3 dX7_which_89 rfl ?_
            refine rr_icmp_ne 100 dX7_which_90 (by decide) (by omega) (by omega) (fun c_14 => ?_) (fun c_14 => ?_)
            · skip
              refine rr_iconst dX7_which_100 ?_
              refine rr_ior (a := bitsTo (whi1 np kd lf qt wd sh x1 y1 z1) i) (b := 0) dX7_which_101 ?_
              refine rr_top (b := ↑(bitsTo (whi1 np kd lf qt wd sh x1 y1 z1) (i + 1))) (by rw [Nat.or_zero, bitsTo, if_neg (by unfold whi1; simp only [decide_eq_true_eq]; omega)]) ?_
              refine rr_istore (lv2 := [(0, .ref m), (1, .int (zz x1)), (2, .int (zz y1)), (3, .int (zz z1)), (4, .int (zz (↑(bitsTo (whi1 np kd lf qt wd sh x1 y1 z1) (i + 1))))), (5, .int (zz ↑i))]) dX7_which_102 (by decide) rfl ?_
              refine rr_iinc (lv2 := [(0, .ref m), (1, .int (zz x1)), (2, .int (zz y1)), (3, .int (zz z1)), (4, .int (zz (↑(bitsTo (whi1 np kd lf qt wd sh x1 y1 z1) (i + 1))))), (5, .int (zz (↑(i + 1))))]) 5 dX7_which_104 rfl (by decide) rfl ?_
              refine rr_goto 38 dX7_which_107 (by decide) ?_
              exact ih (i + 1) (tnM pg wn (cpI g1 0 bgs 0 7) i) (by omega)
            · skip
              refine rr_iconst dX7_which_93 ?_
              refine rr_iload 5 dX7_which_94 rfl ?_
              refine rr_ishl (n := 1) (k := i) dX7_which_96 (by omega) (by have := Nat.pow_le_pow_right (n := 2) (by omega) (show i ≤ 9 by omega); omega) ?_
              refine rr_top (b := ((2 ^ i : Nat) : Int)) (by rw [Nat.one_mul]) ?_
              refine rr_goto 101 dX7_which_97 (by decide) ?_
              refine rr_ior (a := bitsTo (whi1 np kd lf qt wd sh x1 y1 z1) i) (b := 2 ^ i) dX7_which_101 ?_
              refine rr_top (b := ↑(bitsTo (whi1 np kd lf qt wd sh x1 y1 z1) (i + 1))) (by rw [bitsTo, if_pos (by unfold whi1; simp only [decide_eq_true_eq]; omega)]) ?_
              refine rr_istore (lv2 := [(0, .ref m), (1, .int (zz x1)), (2, .int (zz y1)), (3, .int (zz z1)), (4, .int (zz (↑(bitsTo (whi1 np kd lf qt wd sh x1 y1 z1) (i + 1))))), (5, .int (zz ↑i))]) dX7_which_102 (by decide) rfl ?_
              refine rr_iinc (lv2 := [(0, .ref m), (1, .int (zz x1)), (2, .int (zz y1)), (3, .int (zz z1)), (4, .int (zz (↑(bitsTo (whi1 np kd lf qt wd sh x1 y1 z1) (i + 1))))), (5, .int (zz (↑(i + 1))))]) 5 dX7_which_104 rfl (by decide) rfl ?_
              refine rr_goto 38 dX7_which_107 (by decide) ?_
              exact ih (i + 1) (tnM pg wn (cpI g1 0 bgs 0 7) i) (by omega)
  refine rr_iload_n 1 dX7_which_0 rfl ?_
  refine rr_iconst dX7_which_1 ?_
  refine rr_bipush dX7_which_2 (by decide) ?_
  refine rr_callFi (ws2 := [(m, ob 7 [.int (zz ↑np), .ref mP, .ref mW, .int (zz ↑nr), .ref mR, .ref mB, .ref mS, .int (zz ↑ac), .ref mA, .int (zz ↑ke), .ref mK, .int (zz ↑se), .ref mE, .ref mT, .int (zz ↑tl), .int (zz ↑at_), .ref mD, .int (zz ↑rp), .ref nP, .ref nW, .int (zz ↑rr), .ref nR, .ref nB, .ref mN, .ref mO, .ref mQ, .int (zz dp), .ref mX]), (mP, aI E 21 pg), (mW, aI E 10 wn), (mB, aI E 7 bgs), (mN, aI E 7 nw)]) (wr := [(m, ob 7 [.int (zz ↑np), .ref mP, .ref mW, .int (zz ↑nr), .ref mR, .ref mB, .ref mS, .int (zz ↑ac), .ref mA, .int (zz ↑ke), .ref mK, .int (zz ↑se), .ref mE, .ref mT, .int (zz ↑tl), .int (zz ↑at_), .ref mD, .int (zz ↑rp), .ref nP, .ref nW, .int (zz ↑rr), .ref nR, .ref nB, .ref mN, .ref mO, .ref mQ, .int (zz dp), .ref mX]), (mP, aI E 21 pg), (mW, aI E 10 wn), (mB, aI E 7 bgs), (mN, aI E 7 nw)]) (call_S kX7_88 (c_in E (d + 3) x1 0 9 (by omega) (by omega) (by omega)) rfl (by omega) (by decide) (Nat.le_of_ble_eq_true rfl) (Nat.le_of_ble_eq_true rfl) dX7_which_4) [] [0, 1, 2, 3, 4] [0, 1, 2, 3, 4] rfl rfl rfl rfl rfl rfl rfl ?_
  refine rr_if_eqD 30 dX7_which_7 (by decide) (fun c_15 => ?_) (fun c_15 => ?_)
  · skip
    exfalso; omega
  · skip
    refine rr_iload_n 2 dX7_which_10 rfl ?_
    refine rr_iconst dX7_which_11 ?_
    refine rr_bipush dX7_which_12 (by decide) ?_
    refine rr_callFi (ws2 := [(m, ob 7 [.int (zz ↑np), .ref mP, .ref mW, .int (zz ↑nr), .ref mR, .ref mB, .ref mS, .int (zz ↑ac), .ref mA, .int (zz ↑ke), .ref mK, .int (zz ↑se), .ref mE, .ref mT, .int (zz ↑tl), .int (zz ↑at_), .ref mD, .int (zz ↑rp), .ref nP, .ref nW, .int (zz ↑rr), .ref nR, .ref nB, .ref mN, .ref mO, .ref mQ, .int (zz dp), .ref mX]), (mP, aI E 21 pg), (mW, aI E 10 wn), (mB, aI E 7 bgs), (mN, aI E 7 nw)]) (wr := [(m, ob 7 [.int (zz ↑np), .ref mP, .ref mW, .int (zz ↑nr), .ref mR, .ref mB, .ref mS, .int (zz ↑ac), .ref mA, .int (zz ↑ke), .ref mK, .int (zz ↑se), .ref mE, .ref mT, .int (zz ↑tl), .int (zz ↑at_), .ref mD, .int (zz ↑rp), .ref nP, .ref nW, .int (zz ↑rr), .ref nR, .ref nB, .ref mN, .ref mO, .ref mQ, .int (zz dp), .ref mX]), (mP, aI E 21 pg), (mW, aI E 10 wn), (mB, aI E 7 bgs), (mN, aI E 7 nw)]) (call_S kX7_88 (c_in E (d + 3) y1 0 9 (by omega) (by omega) (by omega)) rfl (by omega) (by decide) (Nat.le_of_ble_eq_true rfl) (Nat.le_of_ble_eq_true rfl) dX7_which_14) [] [0, 1, 2, 3, 4] [0, 1, 2, 3, 4] rfl rfl rfl rfl rfl rfl rfl ?_
    refine rr_if_eqD 30 dX7_which_17 (by decide) (fun c_16 => ?_) (fun c_16 => ?_)
    · skip
      exfalso; omega
    · skip
      refine rr_iload_n 3 dX7_which_20 rfl ?_
      refine rr_iconst dX7_which_21 ?_
      refine rr_bipush dX7_which_22 (by decide) ?_
      refine rr_callFi (ws2 := [(m, ob 7 [.int (zz ↑np), .ref mP, .ref mW, .int (zz ↑nr), .ref mR, .ref mB, .ref mS, .int (zz ↑ac), .ref mA, .int (zz ↑ke), .ref mK, .int (zz ↑se), .ref mE, .ref mT, .int (zz ↑tl), .int (zz ↑at_), .ref mD, .int (zz ↑rp), .ref nP, .ref nW, .int (zz ↑rr), .ref nR, .ref nB, .ref mN, .ref mO, .ref mQ, .int (zz dp), .ref mX]), (mP, aI E 21 pg), (mW, aI E 10 wn), (mB, aI E 7 bgs), (mN, aI E 7 nw)]) (wr := [(m, ob 7 [.int (zz ↑np), .ref mP, .ref mW, .int (zz ↑nr), .ref mR, .ref mB, .ref mS, .int (zz ↑ac), .ref mA, .int (zz ↑ke), .ref mK, .int (zz ↑se), .ref mE, .ref mT, .int (zz ↑tl), .int (zz ↑at_), .ref mD, .int (zz ↑rp), .ref nP, .ref nW, .int (zz ↑rr), .ref nR, .ref nB, .ref mN, .ref mO, .ref mQ, .int (zz dp), .ref mX]), (mP, aI E 21 pg), (mW, aI E 10 wn), (mB, aI E 7 bgs), (mN, aI E 7 nw)]) (call_S kX7_88 (c_in E (d + 3) z1 0 9 (by omega) (by omega) (by omega)) rfl (by omega) (by decide) (Nat.le_of_ble_eq_true rfl) (Nat.le_of_ble_eq_true rfl) dX7_which_24) [] [0, 1, 2, 3, 4] [0, 1, 2, 3, 4] rfl rfl rfl rfl rfl rfl rfl ?_
      refine rr_if_neD 32 dX7_which_27 (by decide) (fun c_17 => ?_) (fun c_17 => ?_)
      · skip
        refine rr_iconst dX7_which_32 ?_
        refine rr_istore (lv2 := [(0, .ref m), (1, .int (zz x1)), (2, .int (zz y1)), (3, .int (zz z1)), (4, .int (zz 0))]) dX7_which_33 (by decide) rfl ?_
        refine rr_iconst dX7_which_35 ?_
        refine rr_istore (lv2 := [(0, .ref m), (1, .int (zz x1)), (2, .int (zz y1)), (3, .int (zz z1)), (4, .int (zz 0)), (5, .int (zz 0))]) dX7_which_36 (by decide) rfl ?_
        exact lp np 0 nw (by omega)
      · skip
        exfalso; omega
set_option maxRecDepth 100000 in
set_option maxHeartbeats 400000 in
theorem c_Mflight_bad (E : Ev) (d : Nat) (m mP mW mR mB mS mA mK mE mT mD nP nW nR nB mN mO mQ mX : Nat) (np nr ac ke se tl at_ rp rr : Nat) (dp : Int) (y mm w : Int) (gy : -2147483648 ≤ y ∧ y < 2147483648) (gmm : -2147483648 ≤ mm ∧ mm < 2147483648) (gw : -2147483648 ≤ w ∧ w < 2147483648) (hc : ¬ ((0 ≤ y ∧ y ≤ 9999) ∧ (1 ≤ mm ∧ mm ≤ 40) ∧ 0 ≤ w ∧ w ≤ 1)) : SP E mX7_flight (d + 4) 0 0 [.ref m, .int (zz y), .int (zz mm), .int (zz w)] [(m, ob 7 [.int (zz ↑np), .ref mP, .ref mW, .int (zz ↑nr), .ref mR, .ref mB, .ref mS, .int (zz ↑ac), .ref mA, .int (zz ↑ke), .ref mK, .int (zz ↑se), .ref mE, .ref mT, .int (zz ↑tl), .int (zz ↑at_), .ref mD, .int (zz ↑rp), .ref nP, .ref nW, .int (zz ↑rr), .ref nR, .ref nB, .ref mN, .ref mO, .ref mQ, .int (zz dp), .ref mX])] (FP (some (.int (zz (-1)))) [(m, ob 7 [.int (zz ↑np), .ref mP, .ref mW, .int (zz ↑nr), .ref mR, .ref mB, .ref mS, .int (zz ↑ac), .ref mA, .int (zz ↑ke), .ref mK, .int (zz ↑se), .ref mE, .ref mT, .int (zz ↑tl), .int (zz ↑at_), .ref mD, .int (zz ↑rp), .ref nP, .ref nW, .int (zz ↑rr), .ref nR, .ref nB, .ref mN, .ref mO, .ref mQ, .int (zz dp), .ref mX])]) := by
  show RR E mX7_flight (d + 4) 0 0 0 [(0, .ref m), (1, .int (zz y)), (2, .int (zz mm)), (3, .int (zz w))] [] [(m, ob 7 [.int (zz ↑np), .ref mP, .ref mW, .int (zz ↑nr), .ref mR, .ref mB, .ref mS, .int (zz ↑ac), .ref mA, .int (zz ↑ke), .ref mK, .int (zz ↑se), .ref mE, .ref mT, .int (zz ↑tl), .int (zz ↑at_), .ref mD, .int (zz ↑rp), .ref nP, .ref nW, .int (zz ↑rr), .ref nR, .ref nB, .ref mN, .ref mO, .ref mQ, .int (zz dp), .ref mX])] (FP (some (.int (zz (-1)))) [(m, ob 7 [.int (zz ↑np), .ref mP, .ref mW, .int (zz ↑nr), .ref mR, .ref mB, .ref mS, .int (zz ↑ac), .ref mA, .int (zz ↑ke), .ref mK, .int (zz ↑se), .ref mE, .ref mT, .int (zz ↑tl), .int (zz ↑at_), .ref mD, .int (zz ↑rp), .ref nP, .ref nW, .int (zz ↑rr), .ref nR, .ref nB, .ref mN, .ref mO, .ref mQ, .int (zz dp), .ref mX])])
  refine rr_iload_n 1 dX7_flight_0 rfl ?_
  refine rr_iconst dX7_flight_1 ?_
  refine rr_sipush dX7_flight_2 (by decide) ?_
  refine rr_callFi (ws2 := [(m, ob 7 [.int (zz ↑np), .ref mP, .ref mW, .int (zz ↑nr), .ref mR, .ref mB, .ref mS, .int (zz ↑ac), .ref mA, .int (zz ↑ke), .ref mK, .int (zz ↑se), .ref mE, .ref mT, .int (zz ↑tl), .int (zz ↑at_), .ref mD, .int (zz ↑rp), .ref nP, .ref nW, .int (zz ↑rr), .ref nR, .ref nB, .ref mN, .ref mO, .ref mQ, .int (zz dp), .ref mX])]) (wr := [(m, ob 7 [.int (zz ↑np), .ref mP, .ref mW, .int (zz ↑nr), .ref mR, .ref mB, .ref mS, .int (zz ↑ac), .ref mA, .int (zz ↑ke), .ref mK, .int (zz ↑se), .ref mE, .ref mT, .int (zz ↑tl), .int (zz ↑at_), .ref mD, .int (zz ↑rp), .ref nP, .ref nW, .int (zz ↑rr), .ref nR, .ref nB, .ref mN, .ref mO, .ref mQ, .int (zz dp), .ref mX])]) (call_S kX7_88 (c_in E (d + 3) y 0 9999 (by omega) (by omega) (by omega)) rfl (by omega) (by decide) (Nat.le_of_ble_eq_true rfl) (Nat.le_of_ble_eq_true rfl) dX7_flight_5) [] [0] [0] rfl rfl rfl rfl rfl rfl rfl ?_
  refine rr_if_eqD 30 dX7_flight_8 (by decide) (fun c_1 => ?_) (fun c_1 => ?_)
  · skip
    refine rr_iconst dX7_flight_30 ?_
    exact rr_iret dX7_flight_31 rfl rfl ⟨rfl, rfl⟩
  · skip
    refine rr_iload_n 2 dX7_flight_11 rfl ?_
    refine rr_iconst dX7_flight_12 ?_
    refine rr_bipush dX7_flight_13 (by decide) ?_
    refine rr_callFi (ws2 := [(m, ob 7 [.int (zz ↑np), .ref mP, .ref mW, .int (zz ↑nr), .ref mR, .ref mB, .ref mS, .int (zz ↑ac), .ref mA, .int (zz ↑ke), .ref mK, .int (zz ↑se), .ref mE, .ref mT, .int (zz ↑tl), .int (zz ↑at_), .ref mD, .int (zz ↑rp), .ref nP, .ref nW, .int (zz ↑rr), .ref nR, .ref nB, .ref mN, .ref mO, .ref mQ, .int (zz dp), .ref mX])]) (wr := [(m, ob 7 [.int (zz ↑np), .ref mP, .ref mW, .int (zz ↑nr), .ref mR, .ref mB, .ref mS, .int (zz ↑ac), .ref mA, .int (zz ↑ke), .ref mK, .int (zz ↑se), .ref mE, .ref mT, .int (zz ↑tl), .int (zz ↑at_), .ref mD, .int (zz ↑rp), .ref nP, .ref nW, .int (zz ↑rr), .ref nR, .ref nB, .ref mN, .ref mO, .ref mQ, .int (zz dp), .ref mX])]) (call_S kX7_88 (c_in E (d + 3) mm 1 40 (by omega) (by omega) (by omega)) rfl (by omega) (by decide) (Nat.le_of_ble_eq_true rfl) (Nat.le_of_ble_eq_true rfl) dX7_flight_15) [] [0] [0] rfl rfl rfl rfl rfl rfl rfl ?_
    refine rr_if_eqD 30 dX7_flight_18 (by decide) (fun c_2 => ?_) (fun c_2 => ?_)
    · skip
      refine rr_iconst dX7_flight_30 ?_
      exact rr_iret dX7_flight_31 rfl rfl ⟨rfl, rfl⟩
    · skip
      refine rr_iload_n 3 dX7_flight_21 rfl ?_
      refine rr_iconst dX7_flight_22 ?_
      refine rr_iconst dX7_flight_23 ?_
      refine rr_callFi (ws2 := [(m, ob 7 [.int (zz ↑np), .ref mP, .ref mW, .int (zz ↑nr), .ref mR, .ref mB, .ref mS, .int (zz ↑ac), .ref mA, .int (zz ↑ke), .ref mK, .int (zz ↑se), .ref mE, .ref mT, .int (zz ↑tl), .int (zz ↑at_), .ref mD, .int (zz ↑rp), .ref nP, .ref nW, .int (zz ↑rr), .ref nR, .ref nB, .ref mN, .ref mO, .ref mQ, .int (zz dp), .ref mX])]) (wr := [(m, ob 7 [.int (zz ↑np), .ref mP, .ref mW, .int (zz ↑nr), .ref mR, .ref mB, .ref mS, .int (zz ↑ac), .ref mA, .int (zz ↑ke), .ref mK, .int (zz ↑se), .ref mE, .ref mT, .int (zz ↑tl), .int (zz ↑at_), .ref mD, .int (zz ↑rp), .ref nP, .ref nW, .int (zz ↑rr), .ref nR, .ref nB, .ref mN, .ref mO, .ref mQ, .int (zz dp), .ref mX])]) (call_S kX7_88 (c_in E (d + 3) w 0 1 (by omega) (by omega) (by omega)) rfl (by omega) (by decide) (Nat.le_of_ble_eq_true rfl) (Nat.le_of_ble_eq_true rfl) dX7_flight_24) [] [0] [0] rfl rfl rfl rfl rfl rfl rfl ?_
      refine rr_if_neD 32 dX7_flight_27 (by decide) (fun c_3 => ?_) (fun c_3 => ?_)
      · skip
        exfalso; omega
      · skip
        refine rr_iconst dX7_flight_30 ?_
        exact rr_iret dX7_flight_31 rfl rfl ⟨rfl, rfl⟩
set_option maxRecDepth 100000 in
set_option maxHeartbeats 400000 in
theorem c_Mflight_y (E : Ev) (d : Nat) (m mP mW mR mB mS mA mK mE mT mD nP nW nR nB mN mO mQ mX : Nat) (np nr ac ke se tl at_ rp rr : Nat) (dp : Int) (pg wn ro nw st kd lf qt wd rx ry h : Nat → Int) (hP : PL np kd lf qt wd pg wn) (hpc : pOK np kd lf qt wd) (hRo : RoL nr rx ry ro) (hrc : rOK nr rx ry) (hA : AG 7 st (amF h)) (ho : hOK h) (hv : hV np h) (hnp : 1 ≤ np) (zn mm : Nat) (w : Int) (hz : zn ≤ 9999) (hm : 1 ≤ mm ∧ mm ≤ 40) (hw : 0 ≤ w ∧ w ≤ 1) : SP E mX7_flight (d + 4) 0 0 [.ref m, .int (zz ↑zn), .int (zz ↑mm), .int (zz w)] [(m, ob 7 [.int (zz ↑np), .ref mP, .ref mW, .int (zz ↑nr), .ref mR, .ref mB, .ref mS, .int (zz ↑ac), .ref mA, .int (zz ↑ke), .ref mK, .int (zz ↑se), .ref mE, .ref mT, .int (zz ↑tl), .int (zz ↑at_), .ref mD, .int (zz ↑rp), .ref nP, .ref nW, .int (zz ↑rr), .ref nR, .ref nB, .ref mN, .ref mO, .ref mQ, .int (zz dp), .ref mX]), (mP, aI E 21 pg), (mW, aI E 10 wn), (mR, aI E 12 ro), (mN, aI E 7 nw), (mS, aI E 7 st)] (fun v w1 => v = some (.int (zz (flA nr rx ry w (flN np kd lf qt wd zn mm 0 h)))) ∧ ∃ g1 : Nat → Int, w1 = [(m, ob 7 [.int (zz ↑np), .ref mP, .ref mW, .int (zz ↑nr), .ref mR, .ref mB, .ref mS, .int (zz ↑ac), .ref mA, .int (zz ↑ke), .ref mK, .int (zz ↑se), .ref mE, .ref mT, .int (zz ↑tl), .int (zz ↑at_), .ref mD, .int (zz ↑rp), .ref nP, .ref nW, .int (zz ↑rr), .ref nR, .ref nB, .ref mN, .ref mO, .ref mQ, .int (zz dp), .ref mX]), (mP, aI E 21 pg), (mW, aI E 10 wn), (mR, aI E 12 ro), (mN, aI E 7 g1), (mS, aI E 7 st)]) := by
  show RR E mX7_flight (d + 4) 0 0 0 [(0, .ref m), (1, .int (zz ↑zn)), (2, .int (zz ↑mm)), (3, .int (zz w))] [] [(m, ob 7 [.int (zz ↑np), .ref mP, .ref mW, .int (zz ↑nr), .ref mR, .ref mB, .ref mS, .int (zz ↑ac), .ref mA, .int (zz ↑ke), .ref mK, .int (zz ↑se), .ref mE, .ref mT, .int (zz ↑tl), .int (zz ↑at_), .ref mD, .int (zz ↑rp), .ref nP, .ref nW, .int (zz ↑rr), .ref nR, .ref nB, .ref mN, .ref mO, .ref mQ, .int (zz dp), .ref mX]), (mP, aI E 21 pg), (mW, aI E 10 wn), (mR, aI E 12 ro), (mN, aI E 7 nw), (mS, aI E 7 st)] (fun v w1 => v = some (.int (zz (flA nr rx ry w (flN np kd lf qt wd zn mm 0 h)))) ∧ ∃ g1 : Nat → Int, w1 = [(m, ob 7 [.int (zz ↑np), .ref mP, .ref mW, .int (zz ↑nr), .ref mR, .ref mB, .ref mS, .int (zz ↑ac), .ref mA, .int (zz ↑ke), .ref mK, .int (zz ↑se), .ref mE, .ref mT, .int (zz ↑tl), .int (zz ↑at_), .ref mD, .int (zz ↑rp), .ref nP, .ref nW, .int (zz ↑rr), .ref nR, .ref nB, .ref mN, .ref mO, .ref mQ, .int (zz dp), .ref mX]), (mP, aI E 21 pg), (mW, aI E 10 wn), (mR, aI E 12 ro), (mN, aI E 7 g1), (mS, aI E 7 st)])
  have hp := hP.ok hpc
  have hr := hRo.ok hrc
  have hn := hpc.1
  have hr1 := hrc.1
  have hs := hA.ok ho hv
  obtain ⟨o0, o1, o2, o3, o5, o6⟩ := id ho
  obtain ⟨e0, e1, e2, e3, e4, e5, e6⟩ := hA.all
  have lp : ∀ (n t : Nat) (f1 g1 : Nat → Int), t + n = mm → AG 7 f1 (amF g1) → hOK g1 → hV np g1 → flN np kd lf qt wd zn n t g1 = flN np kd lf qt wd zn mm 0 h → RR E mX7_flight (d + 4) 0 0 43 [(0, .ref m), (1, .int (zz ↑zn)), (2, .int (zz ↑mm)), (3, .int (zz w)), (4, .int (zz ↑t))] [] [(m, ob 7 [.int (zz ↑np), .ref mP, .ref mW, .int (zz ↑nr), .ref mR, .ref mB, .ref mS, .int (zz ↑ac), .ref mA, .int (zz ↑ke), .ref mK, .int (zz ↑se), .ref mE, .ref mT, .int (zz ↑tl), .int (zz ↑at_), .ref mD, .int (zz ↑rp), .ref nP, .ref nW, .int (zz ↑rr), .ref nR, .ref nB, .ref mN, .ref mO, .ref mQ, .int (zz dp), .ref mX]), (mP, aI E 21 pg), (mW, aI E 10 wn), (mR, aI E 12 ro), (mN, aI E 7 f1), (mS, aI E 7 st)] (fun v w1 => v = some (.int (zz (flA nr rx ry w (flN np kd lf qt wd zn mm 0 h)))) ∧ ∃ g1 : Nat → Int, w1 = [(m, ob 7 [.int (zz ↑np), .ref mP, .ref mW, .int (zz ↑nr), .ref mR, .ref mB, .ref mS, .int (zz ↑ac), .ref mA, .int (zz ↑ke), .ref mK, .int (zz ↑se), .ref mE, .ref mT, .int (zz ↑tl), .int (zz ↑at_), .ref mD, .int (zz ↑rp), .ref nP, .ref nW, .int (zz ↑rr), .ref nR, .ref nB, .ref mN, .ref mO, .ref mQ, .int (zz dp), .ref mX]), (mP, aI E 21 pg), (mW, aI E 10 wn), (mR, aI E 12 ro), (mN, aI E 7 g1), (mS, aI E 7 st)]) := by
    intro n
    induction n with
    | zero =>
      intro t f1 g1 h1 hA1 ho1 hv1 h3
      rw [flN] at h3
      have hm1 := hA1.ok ho1 hv1
      obtain ⟨d0, d1, d2, d3, d4, d5, d6⟩ := hA1.all
      obtain ⟨q0, q1, q2, q3, q5, q6⟩ := id ho1
      have hlz : laM nr ro f1 = landF nr rx ry g1 := la_rel hRo hA1.six
      refine rr_iload 4 dX7_flight_43 rfl ?_
      refine rr_iload_n 2 dX7_flight_45 rfl ?_
      refine rr_icmp_ge 103 dX7_flight_46 (by decide) (by omega) (by omega) (fun c_1 => ?_) (fun c_1 => ?_)
      · skip
        refine rr_iload_n 3 dX7_flight_103 rfl ?_
        refine rr_iconst dX7_flight_104 ?_
        refine rr_icmp_ne 125 dX7_flight_105 (by decide) (by omega) (by omega) (fun c_2 => ?_) (fun c_2 => ?_)
        · skip
          refine rr_aload_n 0 dX7_flight_125 rfl ?_
          have hlz : laM nr ro f1 = landF nr rx ry g1 := la_rel hRo (AG.six hA1)
          refine rr_callFi (ws2 := [(m, ob 7 [.int (zz ↑np), .ref mP, .ref mW, .int (zz ↑nr), .ref mR, .ref mB, .ref mS, .int (zz ↑ac), .ref mA, .int (zz ↑ke), .ref mK, .int (zz ↑se), .ref mE, .ref mT, .int (zz ↑tl), .int (zz ↑at_), .ref mD, .int (zz ↑rp), .ref nP, .ref nW, .int (zz ↑rr), .ref nR, .ref nB, .ref mN, .ref mO, .ref mQ, .int (zz dp), .ref mX]), (mP, aI E 21 pg), (mW, aI E 10 wn), (mR, aI E 12 ro), (mN, aI E 7 f1), (mS, aI E 7 st)]) (wr := [(mP, aI E 21 pg), (mW, aI E 10 wn), (mS, aI E 7 st)]) (call_V (q0 := 0) kX7_196 (c_MhasLanded E (d + 2) m mP mW mR mB mS mA mK mE mT mD nP nW nR nB mN mO mQ mX np nr ac ke se tl at_ rp rr dp ro f1 hr hm1) rfl rfl rfl rfl (by omega) (by decide) (Nat.le_of_ble_eq_true rfl) (Nat.le_of_ble_eq_true rfl) dX7_flight_126) [0, 3, 4] [1, 2, 5] [3, 0, 1, 4, 5, 2] rfl rfl rfl rfl rfl rfl rfl ?_
          refine rr_if_eqB 137 dX7_flight_129 (by decide) (fun hld => ?_) (fun hld => ?_)
          · skip
            refine rr_bipush dX7_flight_137 (by decide) ?_
            exact rr_iret dX7_flight_139 rfl rfl ⟨by rw [← h3]; exact congrArg (fun z => some (Value.int (zz z))) (by dsimp only [flA]; rw [if_neg (by omega), if_neg (by rw [← hlz, hld]; decide)]), f1, rfl⟩
          · skip
            refine rr_iload 4 dX7_flight_132 rfl ?_
            refine rr_goto 139 dX7_flight_134 (by decide) ?_
            exact rr_iret dX7_flight_139 rfl rfl ⟨by rw [← h3]; exact congrArg (fun z => some (Value.int (zz z))) (by dsimp only [flA]; rw [if_neg (by omega), if_pos (hlz.symm.trans hld)]), f1, rfl⟩
        · skip
          refine rr_bipush dX7_flight_108 (by decide) ?_
          refine rr_aload_n 0 dX7_flight_110 rfl ?_
          refine rr_get fX7_52 0 rfl rfl dX7_flight_111 ?_
          refine rr_iconst dX7_flight_114 ?_
          refine rr_iald 4 2 rfl rfl (by omega) (by omega) dX7_flight_115 ?_
          refine rr_imul dX7_flight_116 ?_
          refine rr_aload_n 0 dX7_flight_117 rfl ?_
          refine rr_callFi (ws2 := [(m, ob 7 [.int (zz ↑np), .ref mP, .ref mW, .int (zz ↑nr), .ref mR, .ref mB, .ref mS, .int (zz ↑ac), .ref mA, .int (zz ↑ke), .ref mK, .int (zz ↑se), .ref mE, .ref mT, .int (zz ↑tl), .int (zz ↑at_), .ref mD, .int (zz ↑rp), .ref nP, .ref nW, .int (zz ↑rr), .ref nR, .ref nB, .ref mN, .ref mO, .ref mQ, .int (zz dp), .ref mX]), (mP, aI E 21 pg), (mW, aI E 10 wn), (mR, aI E 12 ro), (mN, aI E 7 f1), (mS, aI E 7 st)]) (wr := [(mP, aI E 21 pg), (mW, aI E 10 wn), (mR, aI E 12 ro), (mS, aI E 7 st)]) (call_V (q0 := 0) kX7_193 (c_place E (d + 3) m mP mW mR mB mS mA mK mE mT mD nP nW nR nB mN mO mQ mX np nr ac ke se tl at_ rp rr dp f1) rfl rfl rfl rfl (by omega) (by decide) (Nat.le_of_ble_eq_true rfl) (Nat.le_of_ble_eq_true rfl) dX7_flight_118) [0, 4] [1, 2, 3, 5] [4, 0, 1, 2, 5, 3] rfl rfl rfl rfl rfl rfl rfl ?_
          refine rr_iadd dX7_flight_121 ?_
          refine rr_goto 139 dX7_flight_122 (by decide) ?_
          exact rr_iret dX7_flight_139 rfl rfl ⟨by rw [← h3]; exact congrArg (fun z => some (Value.int (zz z))) (by dsimp only [flA]; rw [if_pos (by omega), d2, d1, d0]), f1, rfl⟩
      · skip
        exfalso; omega
    | succ n ih =>
      intro t f1 g1 h1 hA1 ho1 hv1 h3
      rw [flN] at h3
      have hm1 := hA1.ok ho1 hv1
      obtain ⟨d0, d1, d2, d3, d4, d5, d6⟩ := hA1.all
      obtain ⟨q0, q1, q2, q3, q5, q6⟩ := id ho1
      have hlz : laM nr ro f1 = landF nr rx ry g1 := la_rel hRo hA1.six
      have hdr : drw zn t np < np := Nat.mod_lt _ (by omega)
      have hsq := sq_rg (x := ((7919 * (zn : Int)) + (6151 * (t : Int)) + 1)) (by omega)
      refine rr_iload 4 dX7_flight_43 rfl ?_
      refine rr_iload_n 2 dX7_flight_45 rfl ?_
      refine rr_icmp_ge 103 dX7_flight_46 (by decide) (by omega) (by omega) (fun c_3 => ?_) (fun c_3 => ?_)
      · skip
        exfalso; omega
      · skip
        refine rr_aload_n 0 dX7_flight_49 rfl ?_
        refine rr_callFi (ws2 := [(m, ob 7 [.int (zz ↑np), .ref mP, .ref mW, .int (zz ↑nr), .ref mR, .ref mB, .ref mS, .int (zz ↑ac), .ref mA, .int (zz ↑ke), .ref mK, .int (zz ↑se), .ref mE, .ref mT, .int (zz ↑tl), .int (zz ↑at_), .ref mD, .int (zz ↑rp), .ref nP, .ref nW, .int (zz ↑rr), .ref nR, .ref nB, .ref mN, .ref mO, .ref mQ, .int (zz dp), .ref mX]), (mP, aI E 21 pg), (mW, aI E 10 wn), (mR, aI E 12 ro), (mN, aI E 7 f1), (mS, aI E 7 st)]) (wr := [(mP, aI E 21 pg), (mW, aI E 10 wn), (mR, aI E 12 ro), (mS, aI E 7 st)]) (call_V (q0 := 0) kX7_151 (c_MisDown E (d + 3) m mP mW mR mB mS mA mK mE mT mD nP nW nR nB mN mO mQ mX np nr ac ke se tl at_ rp rr dp f1 (by omega)) rfl rfl rfl rfl (by omega) (by decide) (Nat.le_of_ble_eq_true rfl) (Nat.le_of_ble_eq_true rfl) dX7_flight_50) [0, 4] [1, 2, 3, 5] [4, 0, 1, 2, 5, 3] rfl rfl rfl rfl rfl rfl rfl ?_
        refine rr_if_neD 103 dX7_flight_53 (by decide) (fun hdn => ?_) (fun hdn => ?_)
        · skip
          refine rr_iload_n 3 dX7_flight_103 rfl ?_
          refine rr_iconst dX7_flight_104 ?_
          refine rr_icmp_ne 125 dX7_flight_105 (by decide) (by omega) (by omega) (fun c_4 => ?_) (fun c_4 => ?_)
          · skip
            refine rr_aload_n 0 dX7_flight_125 rfl ?_
            have hlz : laM nr ro f1 = landF nr rx ry g1 := la_rel hRo (AG.six hA1)
            refine rr_callFi (ws2 := [(m, ob 7 [.int (zz ↑np), .ref mP, .ref mW, .int (zz ↑nr), .ref mR, .ref mB, .ref mS, .int (zz ↑ac), .ref mA, .int (zz ↑ke), .ref mK, .int (zz ↑se), .ref mE, .ref mT, .int (zz ↑tl), .int (zz ↑at_), .ref mD, .int (zz ↑rp), .ref nP, .ref nW, .int (zz ↑rr), .ref nR, .ref nB, .ref mN, .ref mO, .ref mQ, .int (zz dp), .ref mX]), (mP, aI E 21 pg), (mW, aI E 10 wn), (mR, aI E 12 ro), (mN, aI E 7 f1), (mS, aI E 7 st)]) (wr := [(mP, aI E 21 pg), (mW, aI E 10 wn), (mS, aI E 7 st)]) (call_V (q0 := 0) kX7_196 (c_MhasLanded E (d + 2) m mP mW mR mB mS mA mK mE mT mD nP nW nR nB mN mO mQ mX np nr ac ke se tl at_ rp rr dp ro f1 hr hm1) rfl rfl rfl rfl (by omega) (by decide) (Nat.le_of_ble_eq_true rfl) (Nat.le_of_ble_eq_true rfl) dX7_flight_126) [0, 3, 4] [1, 2, 5] [3, 0, 1, 4, 5, 2] rfl rfl rfl rfl rfl rfl rfl ?_
            refine rr_if_eqB 137 dX7_flight_129 (by decide) (fun hld => ?_) (fun hld => ?_)
            · skip
              refine rr_bipush dX7_flight_137 (by decide) ?_
              exact rr_iret dX7_flight_139 rfl rfl ⟨by rw [← h3, if_pos (by omega)]; exact congrArg (fun z => some (Value.int (zz z))) (by dsimp only [flA]; rw [if_neg (by omega), if_neg (by rw [← hlz, hld]; decide)]), f1, rfl⟩
            · skip
              refine rr_iload 4 dX7_flight_132 rfl ?_
              refine rr_goto 139 dX7_flight_134 (by decide) ?_
              exact rr_iret dX7_flight_139 rfl rfl ⟨by rw [← h3, if_pos (by omega)]; exact congrArg (fun z => some (Value.int (zz z))) (by dsimp only [flA]; rw [if_neg (by omega), if_pos (hlz.symm.trans hld)]), f1, rfl⟩
          · skip
            refine rr_bipush dX7_flight_108 (by decide) ?_
            refine rr_aload_n 0 dX7_flight_110 rfl ?_
            refine rr_get fX7_52 0 rfl rfl dX7_flight_111 ?_
            refine rr_iconst dX7_flight_114 ?_
            refine rr_iald 4 2 rfl rfl (by omega) (by omega) dX7_flight_115 ?_
            refine rr_imul dX7_flight_116 ?_
            refine rr_aload_n 0 dX7_flight_117 rfl ?_
            refine rr_callFi (ws2 := [(m, ob 7 [.int (zz ↑np), .ref mP, .ref mW, .int (zz ↑nr), .ref mR, .ref mB, .ref mS, .int (zz ↑ac), .ref mA, .int (zz ↑ke), .ref mK, .int (zz ↑se), .ref mE, .ref mT, .int (zz ↑tl), .int (zz ↑at_), .ref mD, .int (zz ↑rp), .ref nP, .ref nW, .int (zz ↑rr), .ref nR, .ref nB, .ref mN, .ref mO, .ref mQ, .int (zz dp), .ref mX]), (mP, aI E 21 pg), (mW, aI E 10 wn), (mR, aI E 12 ro), (mN, aI E 7 f1), (mS, aI E 7 st)]) (wr := [(mP, aI E 21 pg), (mW, aI E 10 wn), (mR, aI E 12 ro), (mS, aI E 7 st)]) (call_V (q0 := 0) kX7_193 (c_place E (d + 3) m mP mW mR mB mS mA mK mE mT mD nP nW nR nB mN mO mQ mX np nr ac ke se tl at_ rp rr dp f1) rfl rfl rfl rfl (by omega) (by decide) (Nat.le_of_ble_eq_true rfl) (Nat.le_of_ble_eq_true rfl) dX7_flight_118) [0, 4] [1, 2, 3, 5] [4, 0, 1, 2, 5, 3] rfl rfl rfl rfl rfl rfl rfl ?_
            refine rr_iadd dX7_flight_121 ?_
            refine rr_goto 139 dX7_flight_122 (by decide) ?_
            exact rr_iret dX7_flight_139 rfl rfl ⟨by rw [← h3, if_pos (by omega)]; exact congrArg (fun z => some (Value.int (zz z))) (by dsimp only [flA]; rw [if_pos (by omega), d2, d1, d0]), f1, rfl⟩
        · skip
          refine rr_lcon (z := 7919) dX7_flight_56 clX7_222 rfl ?_
          refine rr_iload_n 1 dX7_flight_59 rfl ?_
          refine rr_i2l dX7_flight_60 (by omega) ?_
          refine rr_lmul dX7_flight_61 ?_
          refine rr_lcon (z := 6151) dX7_flight_62 clX7_224 rfl ?_
          refine rr_iload 4 dX7_flight_65 rfl ?_
          refine rr_i2l dX7_flight_67 (by omega) ?_
          refine rr_lmul dX7_flight_68 ?_
          refine rr_ladd dX7_flight_69 ?_
          refine rr_lconst (v := ll 1) dX7_flight_70 rfl ?_
          refine rr_ladd dX7_flight_71 ?_
          refine rr_lstore (lv2 := [(0, .ref m), (1, .int (zz ↑zn)), (2, .int (zz ↑mm)), (3, .int (zz w)), (4, .int (zz ↑t)), (5, .long (ll (((7919 * ↑zn) + (6151 * ↑t)) + 1)))]) dX7_flight_72 (by decide) rfl ?_
          refine rr_aload_n 0 dX7_flight_74 rfl ?_
          refine rr_lload 5 dX7_flight_75 rfl ?_
          refine rr_lload 5 dX7_flight_77 rfl ?_
          refine rr_lmul dX7_flight_79 ?_
          refine rr_lcon (z := 65521) dX7_flight_80 clX7_226 rfl ?_
          refine rr_lrem dX7_flight_83 (by omega) (by omega) ?_
          refine rr_lcon (z := 8) dX7_flight_84 clX7_228 rfl ?_
          refine rr_ldiv dX7_flight_87 (by omega) (by omega) ?_
          refine rr_l2i dX7_flight_88 (by omega) ?_
          refine rr_aload_n 0 dX7_flight_89 rfl ?_
          refine rr_get fX7_85 0 rfl rfl dX7_flight_90 ?_
          refine rr_irem dX7_flight_93 (by omega) (by omega) ?_
          refine rr_top (b := ↑(drw zn t np)) (by unfold drw; simp only [Int.natCast_emod, Int.natCast_ediv, Int.natCast_mul, Int.natCast_add]; rfl) ?_
          have hA5 : AG 7 (tnM pg wn f1 (drw zn t np)) (amF (tnF np kd lf qt wd g1 (drw zn t np))) := tn_rel hP hpc hv1 hA1 (by omega)
          have ho5 : hOK (tnF np kd lf qt wd g1 (drw zn t np)) := tnF_ok hpc ho1 (by omega)
          have hv5 : hV np (tnF np kd lf qt wd g1 (drw zn t np)) := tnF_hV (by omega)
          have hm5 : mOK np (tnM pg wn f1 (drw zn t np)) := hA5.ok ho5 hv5
          obtain ⟨ea5, eb5, ec5, ed5, ee5, ef5, eg5⟩ := hA5.all
          obtain ⟨na5, nb5, nc5, nd5, nf5, ng5⟩ := id hm5
          refine rr_callFv (ws2 := [(m, ob 7 [.int (zz ↑np), .ref mP, .ref mW, .int (zz ↑nr), .ref mR, .ref mB, .ref mS, .int (zz ↑ac), .ref mA, .int (zz ↑ke), .ref mK, .int (zz ↑se), .ref mE, .ref mT, .int (zz ↑tl), .int (zz ↑at_), .ref mD, .int (zz ↑rp), .ref nP, .ref nW, .int (zz ↑rr), .ref nR, .ref nB, .ref mN, .ref mO, .ref mQ, .int (zz dp), .ref mX]), (mP, aI E 21 pg), (mW, aI E 10 wn), (mR, aI E 12 ro), (mN, aI E 7 (tnM pg wn f1 (drw zn t np))), (mS, aI E 7 st)]) (wr := [(mR, aI E 12 ro), (mS, aI E 7 st)]) (call_V (q0 := 0) kX7_190 (c_turns E (d + 0) m mP mW mR mB mS mA mK mE mT mD nP nW nR nB mN mO mQ mX np nr ac ke se tl at_ rp rr dp pg wn f1 (drw zn t np) hp hm1 (by omega)) rfl rfl rfl rfl (by omega) (by decide) (Nat.le_of_ble_eq_true rfl) (Nat.le_of_ble_eq_true rfl) dX7_flight_94) [0, 1, 2, 4] [3, 5] [2, 3, 4, 0, 5, 1] rfl rfl rfl rfl rfl rfl rfl ?_
          refine rr_iinc (lv2 := [(0, .ref m), (1, .int (zz ↑zn)), (2, .int (zz ↑mm)), (3, .int (zz w)), (4, .int (zz (↑(t + 1)))), (5, .long (ll (((7919 * ↑zn) + (6151 * ↑t)) + 1)))]) 4 dX7_flight_97 rfl (by decide) rfl ?_
          refine rr_goto 43 dX7_flight_100 (by decide) ?_
          refine RR.lv [0, 1, 2, 3, 4] rfl ?_
          exact ih (t + 1) (tnM pg wn f1 (drw zn t np)) (tnF np kd lf qt wd g1 (drw zn t np)) (by omega) hA5 ho5 hv5 (by rw [if_neg (by omega)] at h3; exact h3)
  refine rr_iload_n 1 dX7_flight_0 rfl ?_
  refine rr_iconst dX7_flight_1 ?_
  refine rr_sipush dX7_flight_2 (by decide) ?_
  refine rr_callFi (ws2 := [(m, ob 7 [.int (zz ↑np), .ref mP, .ref mW, .int (zz ↑nr), .ref mR, .ref mB, .ref mS, .int (zz ↑ac), .ref mA, .int (zz ↑ke), .ref mK, .int (zz ↑se), .ref mE, .ref mT, .int (zz ↑tl), .int (zz ↑at_), .ref mD, .int (zz ↑rp), .ref nP, .ref nW, .int (zz ↑rr), .ref nR, .ref nB, .ref mN, .ref mO, .ref mQ, .int (zz dp), .ref mX]), (mP, aI E 21 pg), (mW, aI E 10 wn), (mR, aI E 12 ro), (mN, aI E 7 nw), (mS, aI E 7 st)]) (wr := [(m, ob 7 [.int (zz ↑np), .ref mP, .ref mW, .int (zz ↑nr), .ref mR, .ref mB, .ref mS, .int (zz ↑ac), .ref mA, .int (zz ↑ke), .ref mK, .int (zz ↑se), .ref mE, .ref mT, .int (zz ↑tl), .int (zz ↑at_), .ref mD, .int (zz ↑rp), .ref nP, .ref nW, .int (zz ↑rr), .ref nR, .ref nB, .ref mN, .ref mO, .ref mQ, .int (zz dp), .ref mX]), (mP, aI E 21 pg), (mW, aI E 10 wn), (mR, aI E 12 ro), (mN, aI E 7 nw), (mS, aI E 7 st)]) (call_S kX7_88 (c_in E (d + 3) ↑zn 0 9999 (by omega) (by omega) (by omega)) rfl (by omega) (by decide) (Nat.le_of_ble_eq_true rfl) (Nat.le_of_ble_eq_true rfl) dX7_flight_5) [] [0, 1, 2, 3, 4, 5] [0, 1, 2, 3, 4, 5] rfl rfl rfl rfl rfl rfl rfl ?_
  refine rr_if_eqD 30 dX7_flight_8 (by decide) (fun c_6 => ?_) (fun c_6 => ?_)
  · skip
    exfalso; omega
  · skip
    refine rr_iload_n 2 dX7_flight_11 rfl ?_
    refine rr_iconst dX7_flight_12 ?_
    refine rr_bipush dX7_flight_13 (by decide) ?_
    refine rr_callFi (ws2 := [(m, ob 7 [.int (zz ↑np), .ref mP, .ref mW, .int (zz ↑nr), .ref mR, .ref mB, .ref mS, .int (zz ↑ac), .ref mA, .int (zz ↑ke), .ref mK, .int (zz ↑se), .ref mE, .ref mT, .int (zz ↑tl), .int (zz ↑at_), .ref mD, .int (zz ↑rp), .ref nP, .ref nW, .int (zz ↑rr), .ref nR, .ref nB, .ref mN, .ref mO, .ref mQ, .int (zz dp), .ref mX]), (mP, aI E 21 pg), (mW, aI E 10 wn), (mR, aI E 12 ro), (mN, aI E 7 nw), (mS, aI E 7 st)]) (wr := [(m, ob 7 [.int (zz ↑np), .ref mP, .ref mW, .int (zz ↑nr), .ref mR, .ref mB, .ref mS, .int (zz ↑ac), .ref mA, .int (zz ↑ke), .ref mK, .int (zz ↑se), .ref mE, .ref mT, .int (zz ↑tl), .int (zz ↑at_), .ref mD, .int (zz ↑rp), .ref nP, .ref nW, .int (zz ↑rr), .ref nR, .ref nB, .ref mN, .ref mO, .ref mQ, .int (zz dp), .ref mX]), (mP, aI E 21 pg), (mW, aI E 10 wn), (mR, aI E 12 ro), (mN, aI E 7 nw), (mS, aI E 7 st)]) (call_S kX7_88 (c_in E (d + 3) ↑mm 1 40 (by omega) (by omega) (by omega)) rfl (by omega) (by decide) (Nat.le_of_ble_eq_true rfl) (Nat.le_of_ble_eq_true rfl) dX7_flight_15) [] [0, 1, 2, 3, 4, 5] [0, 1, 2, 3, 4, 5] rfl rfl rfl rfl rfl rfl rfl ?_
    refine rr_if_eqD 30 dX7_flight_18 (by decide) (fun c_7 => ?_) (fun c_7 => ?_)
    · skip
      exfalso; omega
    · skip
      refine rr_iload_n 3 dX7_flight_21 rfl ?_
      refine rr_iconst dX7_flight_22 ?_
      refine rr_iconst dX7_flight_23 ?_
      refine rr_callFi (ws2 := [(m, ob 7 [.int (zz ↑np), .ref mP, .ref mW, .int (zz ↑nr), .ref mR, .ref mB, .ref mS, .int (zz ↑ac), .ref mA, .int (zz ↑ke), .ref mK, .int (zz ↑se), .ref mE, .ref mT, .int (zz ↑tl), .int (zz ↑at_), .ref mD, .int (zz ↑rp), .ref nP, .ref nW, .int (zz ↑rr), .ref nR, .ref nB, .ref mN, .ref mO, .ref mQ, .int (zz dp), .ref mX]), (mP, aI E 21 pg), (mW, aI E 10 wn), (mR, aI E 12 ro), (mN, aI E 7 nw), (mS, aI E 7 st)]) (wr := [(m, ob 7 [.int (zz ↑np), .ref mP, .ref mW, .int (zz ↑nr), .ref mR, .ref mB, .ref mS, .int (zz ↑ac), .ref mA, .int (zz ↑ke), .ref mK, .int (zz ↑se), .ref mE, .ref mT, .int (zz ↑tl), .int (zz ↑at_), .ref mD, .int (zz ↑rp), .ref nP, .ref nW, .int (zz ↑rr), .ref nR, .ref nB, .ref mN, .ref mO, .ref mQ, .int (zz dp), .ref mX]), (mP, aI E 21 pg), (mW, aI E 10 wn), (mR, aI E 12 ro), (mN, aI E 7 nw), (mS, aI E 7 st)]) (call_S kX7_88 (c_in E (d + 3) w 0 1 (by omega) (by omega) (by omega)) rfl (by omega) (by decide) (Nat.le_of_ble_eq_true rfl) (Nat.le_of_ble_eq_true rfl) dX7_flight_24) [] [0, 1, 2, 3, 4, 5] [0, 1, 2, 3, 4, 5] rfl rfl rfl rfl rfl rfl rfl ?_
      refine rr_if_neD 32 dX7_flight_27 (by decide) (fun c_8 => ?_) (fun c_8 => ?_)
      · skip
        refine rr_aload_n 0 dX7_flight_32 rfl ?_
        refine rr_aload_n 0 dX7_flight_33 rfl ?_
        refine rr_get fX7_22 0 rfl rfl dX7_flight_34 ?_
        have ke_9 : cpI nw 0 st 0 7 0 = st 0 := rfl
        have ke_10 : cpI nw 0 st 0 7 1 = st 1 := rfl
        have ke_11 : cpI nw 0 st 0 7 2 = st 2 := rfl
        have ke_12 : cpI nw 0 st 0 7 3 = st 3 := rfl
        have ke_13 : cpI nw 0 st 0 7 4 = st 4 := rfl
        have ke_14 : cpI nw 0 st 0 7 5 = st 5 := rfl
        have ke_15 : cpI nw 0 st 0 7 6 = st 6 := rfl
        have hA16 : AG 7 (cpI nw 0 st 0 7) (amF h) := cp7 hA
        have ho16 : hOK h := ho
        have hv16 : hV np h := hv
        have hm16 : mOK np (cpI nw 0 st 0 7) := hA16.ok ho16 hv16
        obtain ⟨ea16, eb16, ec16, ed16, ee16, ef16, eg16⟩ := hA16.all
        obtain ⟨na16, nb16, nc16, nd16, nf16, ng16⟩ := id hm16
        refine rr_callFv (ws2 := [(m, ob 7 [.int (zz ↑np), .ref mP, .ref mW, .int (zz ↑nr), .ref mR, .ref mB, .ref mS, .int (zz ↑ac), .ref mA, .int (zz ↑ke), .ref mK, .int (zz ↑se), .ref mE, .ref mT, .int (zz ↑tl), .int (zz ↑at_), .ref mD, .int (zz ↑rp), .ref nP, .ref nW, .int (zz ↑rr), .ref nR, .ref nB, .ref mN, .ref mO, .ref mQ, .int (zz dp), .ref mX]), (mP, aI E 21 pg), (mW, aI E 10 wn), (mR, aI E 12 ro), (mN, aI E 7 (cpI nw 0 st 0 7)), (mS, aI E 7 st)]) (wr := [(mP, aI E 21 pg), (mW, aI E 10 wn), (mR, aI E 12 ro)]) (call_V (q0 := 0) kX7_180 (c_from E (d + 2) m mP mW mR mB mS mA mK mE mT mD nP nW nR nB mN mO mQ mX np nr ac ke se tl at_ rp rr dp mS nw st) rfl rfl rfl rfl (by omega) (by decide) (Nat.le_of_ble_eq_true rfl) (Nat.le_of_ble_eq_true rfl) dX7_flight_37) [0, 4, 5] [1, 2, 3] [3, 0, 1, 2, 4, 5] rfl rfl rfl rfl rfl rfl rfl ?_
        refine rr_iconst dX7_flight_40 ?_
        refine rr_istore (lv2 := [(0, .ref m), (1, .int (zz ↑zn)), (2, .int (zz ↑mm)), (3, .int (zz w)), (4, .int (zz 0))]) dX7_flight_41 (by decide) rfl ?_
        exact lp mm 0 (cpI nw 0 st 0 7) h (by omega) (cp7 hA) ho hv rfl
      · skip
        exfalso; omega
set_option maxRecDepth 100000 in
set_option maxHeartbeats 400000 in
theorem c_Mkeep_full (E : Ev) (d : Nat) (m mP mW mR mB mS mA mK mE mT mD nP nW nR nB mN mO mQ mX : Nat) (np nr ac ke se tl at_ rp rr : Nat) (dp : Int) (hc : ke = 2) : SP E mX7_keep (d + 1) 0 0 [.ref m] [(m, ob 7 [.int (zz ↑np), .ref mP, .ref mW, .int (zz ↑nr), .ref mR, .ref mB, .ref mS, .int (zz ↑ac), .ref mA, .int (zz ↑ke), .ref mK, .int (zz ↑se), .ref mE, .ref mT, .int (zz ↑tl), .int (zz ↑at_), .ref mD, .int (zz ↑rp), .ref nP, .ref nW, .int (zz ↑rr), .ref nR, .ref nB, .ref mN, .ref mO, .ref mQ, .int (zz dp), .ref mX])] (FP (some (.int (zz (-3)))) [(m, ob 7 [.int (zz ↑np), .ref mP, .ref mW, .int (zz ↑nr), .ref mR, .ref mB, .ref mS, .int (zz ↑ac), .ref mA, .int (zz ↑ke), .ref mK, .int (zz ↑se), .ref mE, .ref mT, .int (zz ↑tl), .int (zz ↑at_), .ref mD, .int (zz ↑rp), .ref nP, .ref nW, .int (zz ↑rr), .ref nR, .ref nB, .ref mN, .ref mO, .ref mQ, .int (zz dp), .ref mX])]) := by
  show RR E mX7_keep (d + 1) 0 0 0 [(0, .ref m)] [] [(m, ob 7 [.int (zz ↑np), .ref mP, .ref mW, .int (zz ↑nr), .ref mR, .ref mB, .ref mS, .int (zz ↑ac), .ref mA, .int (zz ↑ke), .ref mK, .int (zz ↑se), .ref mE, .ref mT, .int (zz ↑tl), .int (zz ↑at_), .ref mD, .int (zz ↑rp), .ref nP, .ref nW, .int (zz ↑rr), .ref nR, .ref nB, .ref mN, .ref mO, .ref mQ, .int (zz dp), .ref mX])] (FP (some (.int (zz (-3)))) [(m, ob 7 [.int (zz ↑np), .ref mP, .ref mW, .int (zz ↑nr), .ref mR, .ref mB, .ref mS, .int (zz ↑ac), .ref mA, .int (zz ↑ke), .ref mK, .int (zz ↑se), .ref mE, .ref mT, .int (zz ↑tl), .int (zz ↑at_), .ref mD, .int (zz ↑rp), .ref nP, .ref nW, .int (zz ↑rr), .ref nR, .ref nB, .ref mN, .ref mO, .ref mQ, .int (zz dp), .ref mX])])
  refine rr_aload_n 0 dX7_keep_0 rfl ?_
  refine rr_get fX7_145 0 rfl rfl dX7_keep_1 ?_
  refine rr_iconst dX7_keep_4 ?_
  refine rr_icmp_ne 11 dX7_keep_5 (by decide) (by omega) (by omega) (fun c_1 => ?_) (fun c_1 => ?_)
  · skip
    exfalso; omega
  · skip
    refine rr_bipush dX7_keep_8 (by decide) ?_
    exact rr_iret dX7_keep_10 rfl rfl ⟨rfl, rfl⟩
set_option maxRecDepth 100000 in
set_option maxHeartbeats 400000 in
theorem c_Mkeep_y (E : Ev) (d : Nat) (m mP mW mR mB mS mA mK mE mT mD nP nW nR nB mN mO mQ mX : Nat) (np nr ac ke se tl at_ rp rr : Nat) (dp : Int) (kp st : Nat → Int) (hc : ke < 2) : SP E mX7_keep (d + 1) 0 0 [.ref m] [(m, ob 7 [.int (zz ↑np), .ref mP, .ref mW, .int (zz ↑nr), .ref mR, .ref mB, .ref mS, .int (zz ↑ac), .ref mA, .int (zz ↑ke), .ref mK, .int (zz ↑se), .ref mE, .ref mT, .int (zz ↑tl), .int (zz ↑at_), .ref mD, .int (zz ↑rp), .ref nP, .ref nW, .int (zz ↑rr), .ref nR, .ref nB, .ref mN, .ref mO, .ref mQ, .int (zz dp), .ref mX]), (mK, aI E 14 kp), (mS, aI E 7 st)] (FP (some (.int (zz (↑(ke + 1))))) [(m, ob 7 [.int (zz ↑np), .ref mP, .ref mW, .int (zz ↑nr), .ref mR, .ref mB, .ref mS, .int (zz ↑ac), .ref mA, .int (zz (↑(ke + 1))), .ref mK, .int (zz ↑se), .ref mE, .ref mT, .int (zz ↑tl), .int (zz ↑at_), .ref mD, .int (zz ↑rp), .ref nP, .ref nW, .int (zz ↑rr), .ref nR, .ref nB, .ref mN, .ref mO, .ref mQ, .int (zz dp), .ref mX]), (mK, aI E 14 (cpI kp (7 * ke) st 0 7)), (mS, aI E 7 st)]) := by
  show RR E mX7_keep (d + 1) 0 0 0 [(0, .ref m)] [] [(m, ob 7 [.int (zz ↑np), .ref mP, .ref mW, .int (zz ↑nr), .ref mR, .ref mB, .ref mS, .int (zz ↑ac), .ref mA, .int (zz ↑ke), .ref mK, .int (zz ↑se), .ref mE, .ref mT, .int (zz ↑tl), .int (zz ↑at_), .ref mD, .int (zz ↑rp), .ref nP, .ref nW, .int (zz ↑rr), .ref nR, .ref nB, .ref mN, .ref mO, .ref mQ, .int (zz dp), .ref mX]), (mK, aI E 14 kp), (mS, aI E 7 st)] (FP (some (.int (zz (↑(ke + 1))))) [(m, ob 7 [.int (zz ↑np), .ref mP, .ref mW, .int (zz ↑nr), .ref mR, .ref mB, .ref mS, .int (zz ↑ac), .ref mA, .int (zz (↑(ke + 1))), .ref mK, .int (zz ↑se), .ref mE, .ref mT, .int (zz ↑tl), .int (zz ↑at_), .ref mD, .int (zz ↑rp), .ref nP, .ref nW, .int (zz ↑rr), .ref nR, .ref nB, .ref mN, .ref mO, .ref mQ, .int (zz dp), .ref mX]), (mK, aI E 14 (cpI kp (7 * ke) st 0 7)), (mS, aI E 7 st)])
  refine rr_aload_n 0 dX7_keep_0 rfl ?_
  refine rr_get fX7_145 0 rfl rfl dX7_keep_1 ?_
  refine rr_iconst dX7_keep_4 ?_
  refine rr_icmp_ne 11 dX7_keep_5 (by decide) (by omega) (by omega) (fun c_1 => ?_) (fun c_1 => ?_)
  · skip
    refine rr_aload_n 0 dX7_keep_11 rfl ?_
    refine rr_get fX7_28 0 rfl rfl dX7_keep_12 ?_
    refine rr_bipush dX7_keep_15 (by decide) ?_
    refine rr_aload_n 0 dX7_keep_17 rfl ?_
    refine rr_get fX7_145 0 rfl rfl dX7_keep_18 ?_
    refine rr_imul dX7_keep_21 ?_
    refine rr_top (b := ↑(7 * ke)) (by omega) ?_
    refine rr_aload_n 0 dX7_keep_22 rfl ?_
    refine rr_get fX7_22 0 rfl rfl dX7_keep_23 ?_
    refine rr_iconst dX7_keep_26 ?_
    refine rr_bipush dX7_keep_27 (by decide) ?_
    refine rr_callFv (ws2 := [(m, ob 7 [.int (zz ↑np), .ref mP, .ref mW, .int (zz ↑nr), .ref mR, .ref mB, .ref mS, .int (zz ↑ac), .ref mA, .int (zz ↑ke), .ref mK, .int (zz ↑se), .ref mE, .ref mT, .int (zz ↑tl), .int (zz ↑at_), .ref mD, .int (zz ↑rp), .ref nP, .ref nW, .int (zz ↑rr), .ref nR, .ref nB, .ref mN, .ref mO, .ref mQ, .int (zz dp), .ref mX]), (mK, aI E 14 (cpI kp (7 * ke) st 0 7)), (mS, aI E 7 st)]) (wr := [(m, ob 7 [.int (zz ↑np), .ref mP, .ref mW, .int (zz ↑nr), .ref mR, .ref mB, .ref mS, .int (zz ↑ac), .ref mA, .int (zz ↑ke), .ref mK, .int (zz ↑se), .ref mE, .ref mT, .int (zz ↑tl), .int (zz ↑at_), .ref mD, .int (zz ↑rp), .ref nP, .ref nW, .int (zz ↑rr), .ref nR, .ref nB, .ref mN, .ref mO, .ref mQ, .int (zz dp), .ref mX])]) (call_S kX7_138 (c_copies E (d + 0) mK mS 14 7 (7 * ke) 0 7 kp st (by omega) (by omega) (by omega) (by omega)) rfl (by omega) (by decide) (Nat.le_of_ble_eq_true rfl) (Nat.le_of_ble_eq_true rfl) dX7_keep_29) [1, 2] [0] [0, 1, 2] rfl rfl rfl rfl rfl rfl rfl ?_
    refine rr_aload_n 0 dX7_keep_32 rfl ?_
    refine rr_dup dX7_keep_33 rfl ?_
    refine rr_get fX7_145 0 rfl rfl dX7_keep_34 ?_
    refine rr_iconst dX7_keep_37 ?_
    refine rr_iadd dX7_keep_38 ?_
    refine rr_put (ws2 := [(m, ob 7 [.int (zz ↑np), .ref mP, .ref mW, .int (zz ↑nr), .ref mR, .ref mB, .ref mS, .int (zz ↑ac), .ref mA, .int (zz (↑(ke + 1))), .ref mK, .int (zz ↑se), .ref mE, .ref mT, .int (zz ↑tl), .int (zz ↑at_), .ref mD, .int (zz ↑rp), .ref nP, .ref nW, .int (zz ↑rr), .ref nR, .ref nB, .ref mN, .ref mO, .ref mQ, .int (zz dp), .ref mX]), (mK, aI E 14 (cpI kp (7 * ke) st 0 7)), (mS, aI E 7 st)]) fX7_145 0 rfl rfl rfl (Nat.le_of_ble_eq_true rfl) rfl dX7_keep_39 ?_
    refine rr_aload_n 0 dX7_keep_42 rfl ?_
    refine rr_get fX7_145 0 rfl rfl dX7_keep_43 ?_
    exact rr_iret dX7_keep_46 rfl rfl ⟨rfl, rfl⟩
  · skip
    exfalso; omega
set_option maxRecDepth 100000 in
set_option maxHeartbeats 400000 in
theorem c_Mback_no (E : Ev) (d : Nat) (m mP mW mR mB mS mA mK mE mT mD nP nW nR nB mN mO mQ mX : Nat) (np nr ac ke se tl at_ rp rr : Nat) (dp : Int) (hc : ke = 0) : SP E mX7_back (d + 1) 0 0 [.ref m] [(m, ob 7 [.int (zz ↑np), .ref mP, .ref mW, .int (zz ↑nr), .ref mR, .ref mB, .ref mS, .int (zz ↑ac), .ref mA, .int (zz ↑ke), .ref mK, .int (zz ↑se), .ref mE, .ref mT, .int (zz ↑tl), .int (zz ↑at_), .ref mD, .int (zz ↑rp), .ref nP, .ref nW, .int (zz ↑rr), .ref nR, .ref nB, .ref mN, .ref mO, .ref mQ, .int (zz dp), .ref mX])] (FP (some (.int (zz (-2)))) [(m, ob 7 [.int (zz ↑np), .ref mP, .ref mW, .int (zz ↑nr), .ref mR, .ref mB, .ref mS, .int (zz ↑ac), .ref mA, .int (zz ↑ke), .ref mK, .int (zz ↑se), .ref mE, .ref mT, .int (zz ↑tl), .int (zz ↑at_), .ref mD, .int (zz ↑rp), .ref nP, .ref nW, .int (zz ↑rr), .ref nR, .ref nB, .ref mN, .ref mO, .ref mQ, .int (zz dp), .ref mX])]) := by
  show RR E mX7_back (d + 1) 0 0 0 [(0, .ref m)] [] [(m, ob 7 [.int (zz ↑np), .ref mP, .ref mW, .int (zz ↑nr), .ref mR, .ref mB, .ref mS, .int (zz ↑ac), .ref mA, .int (zz ↑ke), .ref mK, .int (zz ↑se), .ref mE, .ref mT, .int (zz ↑tl), .int (zz ↑at_), .ref mD, .int (zz ↑rp), .ref nP, .ref nW, .int (zz ↑rr), .ref nR, .ref nB, .ref mN, .ref mO, .ref mQ, .int (zz dp), .ref mX])] (FP (some (.int (zz (-2)))) [(m, ob 7 [.int (zz ↑np), .ref mP, .ref mW, .int (zz ↑nr), .ref mR, .ref mB, .ref mS, .int (zz ↑ac), .ref mA, .int (zz ↑ke), .ref mK, .int (zz ↑se), .ref mE, .ref mT, .int (zz ↑tl), .int (zz ↑at_), .ref mD, .int (zz ↑rp), .ref nP, .ref nW, .int (zz ↑rr), .ref nR, .ref nB, .ref mN, .ref mO, .ref mQ, .int (zz dp), .ref mX])])
  refine rr_aload_n 0 dX7_back_0 rfl ?_
  refine rr_get fX7_145 0 rfl rfl dX7_back_1 ?_
  refine rr_if_ne 10 dX7_back_4 (by decide) (by omega) (fun c_1 => ?_) (fun c_1 => ?_)
  · skip
    exfalso; omega
  · skip
    refine rr_bipush dX7_back_7 (by decide) ?_
    exact rr_iret dX7_back_9 rfl rfl ⟨rfl, rfl⟩
set_option maxRecDepth 100000 in
set_option maxHeartbeats 400000 in
theorem c_Mback_y (E : Ev) (d : Nat) (m mP mW mR mB mS mA mK mE mT mD nP nW nR nB mN mO mQ mX : Nat) (np nr ac ke se tl at_ rp rr : Nat) (dp : Int) (kp st : Nat → Int) (k : Nat) (hk : k < 2) (hke : ke = k + 1) : SP E mX7_back (d + 1) 0 0 [.ref m] [(m, ob 7 [.int (zz ↑np), .ref mP, .ref mW, .int (zz ↑nr), .ref mR, .ref mB, .ref mS, .int (zz ↑ac), .ref mA, .int (zz ↑ke), .ref mK, .int (zz ↑se), .ref mE, .ref mT, .int (zz ↑tl), .int (zz ↑at_), .ref mD, .int (zz ↑rp), .ref nP, .ref nW, .int (zz ↑rr), .ref nR, .ref nB, .ref mN, .ref mO, .ref mQ, .int (zz dp), .ref mX]), (mS, aI E 7 st), (mK, aI E 14 kp)] (FP (some (.int (zz ↑k))) [(m, ob 7 [.int (zz ↑np), .ref mP, .ref mW, .int (zz ↑nr), .ref mR, .ref mB, .ref mS, .int (zz 0), .ref mA, .int (zz ↑k), .ref mK, .int (zz ↑se), .ref mE, .ref mT, .int (zz ↑tl), .int (zz ↑at_), .ref mD, .int (zz ↑rp), .ref nP, .ref nW, .int (zz ↑rr), .ref nR, .ref nB, .ref mN, .ref mO, .ref mQ, .int (zz dp), .ref mX]), (mS, aI E 7 (cpI st 0 kp (7 * k) 7)), (mK, aI E 14 kp)]) := by
  show RR E mX7_back (d + 1) 0 0 0 [(0, .ref m)] [] [(m, ob 7 [.int (zz ↑np), .ref mP, .ref mW, .int (zz ↑nr), .ref mR, .ref mB, .ref mS, .int (zz ↑ac), .ref mA, .int (zz ↑ke), .ref mK, .int (zz ↑se), .ref mE, .ref mT, .int (zz ↑tl), .int (zz ↑at_), .ref mD, .int (zz ↑rp), .ref nP, .ref nW, .int (zz ↑rr), .ref nR, .ref nB, .ref mN, .ref mO, .ref mQ, .int (zz dp), .ref mX]), (mS, aI E 7 st), (mK, aI E 14 kp)] (FP (some (.int (zz ↑k))) [(m, ob 7 [.int (zz ↑np), .ref mP, .ref mW, .int (zz ↑nr), .ref mR, .ref mB, .ref mS, .int (zz 0), .ref mA, .int (zz ↑k), .ref mK, .int (zz ↑se), .ref mE, .ref mT, .int (zz ↑tl), .int (zz ↑at_), .ref mD, .int (zz ↑rp), .ref nP, .ref nW, .int (zz ↑rr), .ref nR, .ref nB, .ref mN, .ref mO, .ref mQ, .int (zz dp), .ref mX]), (mS, aI E 7 (cpI st 0 kp (7 * k) 7)), (mK, aI E 14 kp)])
  refine rr_aload_n 0 dX7_back_0 rfl ?_
  refine rr_get fX7_145 0 rfl rfl dX7_back_1 ?_
  refine rr_if_ne 10 dX7_back_4 (by decide) (by omega) (fun c_1 => ?_) (fun c_1 => ?_)
  · skip
    refine rr_aload_n 0 dX7_back_10 rfl ?_
    refine rr_dup dX7_back_11 rfl ?_
    refine rr_get fX7_145 0 rfl rfl dX7_back_12 ?_
    refine rr_iconst dX7_back_15 ?_
    refine rr_isub dX7_back_16 ?_
    refine rr_top (b := ↑k) (by omega) ?_
    refine rr_put (ws2 := [(m, ob 7 [.int (zz ↑np), .ref mP, .ref mW, .int (zz ↑nr), .ref mR, .ref mB, .ref mS, .int (zz ↑ac), .ref mA, .int (zz ↑k), .ref mK, .int (zz ↑se), .ref mE, .ref mT, .int (zz ↑tl), .int (zz ↑at_), .ref mD, .int (zz ↑rp), .ref nP, .ref nW, .int (zz ↑rr), .ref nR, .ref nB, .ref mN, .ref mO, .ref mQ, .int (zz dp), .ref mX]), (mS, aI E 7 st), (mK, aI E 14 kp)]) fX7_145 0 rfl rfl rfl (Nat.le_of_ble_eq_true rfl) rfl dX7_back_17 ?_
    refine rr_aload_n 0 dX7_back_20 rfl ?_
    refine rr_get fX7_22 0 rfl rfl dX7_back_21 ?_
    refine rr_iconst dX7_back_24 ?_
    refine rr_aload_n 0 dX7_back_25 rfl ?_
    refine rr_get fX7_28 0 rfl rfl dX7_back_26 ?_
    refine rr_bipush dX7_back_29 (by decide) ?_
    refine rr_aload_n 0 dX7_back_31 rfl ?_
    refine rr_get fX7_145 0 rfl rfl dX7_back_32 ?_
    refine rr_imul dX7_back_35 ?_
    refine rr_top (b := ↑(7 * k)) (by omega) ?_
    refine rr_bipush dX7_back_36 (by decide) ?_
    refine rr_callFv (ws2 := [(m, ob 7 [.int (zz ↑np), .ref mP, .ref mW, .int (zz ↑nr), .ref mR, .ref mB, .ref mS, .int (zz ↑ac), .ref mA, .int (zz ↑k), .ref mK, .int (zz ↑se), .ref mE, .ref mT, .int (zz ↑tl), .int (zz ↑at_), .ref mD, .int (zz ↑rp), .ref nP, .ref nW, .int (zz ↑rr), .ref nR, .ref nB, .ref mN, .ref mO, .ref mQ, .int (zz dp), .ref mX]), (mS, aI E 7 (cpI st 0 kp (7 * k) 7)), (mK, aI E 14 kp)]) (wr := [(m, ob 7 [.int (zz ↑np), .ref mP, .ref mW, .int (zz ↑nr), .ref mR, .ref mB, .ref mS, .int (zz ↑ac), .ref mA, .int (zz ↑k), .ref mK, .int (zz ↑se), .ref mE, .ref mT, .int (zz ↑tl), .int (zz ↑at_), .ref mD, .int (zz ↑rp), .ref nP, .ref nW, .int (zz ↑rr), .ref nR, .ref nB, .ref mN, .ref mO, .ref mQ, .int (zz dp), .ref mX])]) (call_S kX7_138 (c_copies E (d + 0) mS mK 7 14 0 (7 * k) 7 st kp (by omega) (by omega) (by omega) (by omega)) rfl (by omega) (by decide) (Nat.le_of_ble_eq_true rfl) (Nat.le_of_ble_eq_true rfl) dX7_back_38) [1, 2] [0] [0, 1, 2] rfl rfl rfl rfl rfl rfl rfl ?_
    refine rr_aload_n 0 dX7_back_41 rfl ?_
    refine rr_iconst dX7_back_42 ?_
    refine rr_put (ws2 := [(m, ob 7 [.int (zz ↑np), .ref mP, .ref mW, .int (zz ↑nr), .ref mR, .ref mB, .ref mS, .int (zz 0), .ref mA, .int (zz ↑k), .ref mK, .int (zz ↑se), .ref mE, .ref mT, .int (zz ↑tl), .int (zz ↑at_), .ref mD, .int (zz ↑rp), .ref nP, .ref nW, .int (zz ↑rr), .ref nR, .ref nB, .ref mN, .ref mO, .ref mQ, .int (zz dp), .ref mX]), (mS, aI E 7 (cpI st 0 kp (7 * k) 7)), (mK, aI E 14 kp)]) fX7_142 0 rfl rfl rfl (Nat.le_of_ble_eq_true rfl) rfl dX7_back_43 ?_
    refine rr_aload_n 0 dX7_back_46 rfl ?_
    refine rr_get fX7_145 0 rfl rfl dX7_back_47 ?_
    exact rr_iret dX7_back_50 rfl rfl ⟨rfl, rfl⟩
  · skip
    exfalso; omega
set_option maxRecDepth 100000 in
set_option maxHeartbeats 400000 in
theorem c_Mcount (E : Ev) (d : Nat) (m mP mW mR mB mS mA mK mE mT mD nP nW nR nB mN mO mQ mX : Nat) (np nr ac ke se tl at_ rp rr : Nat) (dp : Int) (w : Int) (gw : -2147483648 ≤ w ∧ w < 2147483648) : SP E mX7_count (d + 0) 0 0 [.ref m, .int (zz w)] [(m, ob 7 [.int (zz ↑np), .ref mP, .ref mW, .int (zz ↑nr), .ref mR, .ref mB, .ref mS, .int (zz ↑ac), .ref mA, .int (zz ↑ke), .ref mK, .int (zz ↑se), .ref mE, .ref mT, .int (zz ↑tl), .int (zz ↑at_), .ref mD, .int (zz ↑rp), .ref nP, .ref nW, .int (zz ↑rr), .ref nR, .ref nB, .ref mN, .ref mO, .ref mQ, .int (zz dp), .ref mX])] (FP (some (.int (zz (countA np nr se ac ke tl w)))) [(m, ob 7 [.int (zz ↑np), .ref mP, .ref mW, .int (zz ↑nr), .ref mR, .ref mB, .ref mS, .int (zz ↑ac), .ref mA, .int (zz ↑ke), .ref mK, .int (zz ↑se), .ref mE, .ref mT, .int (zz ↑tl), .int (zz ↑at_), .ref mD, .int (zz ↑rp), .ref nP, .ref nW, .int (zz ↑rr), .ref nR, .ref nB, .ref mN, .ref mO, .ref mQ, .int (zz dp), .ref mX])]) := by
  show RR E mX7_count (d + 0) 0 0 0 [(0, .ref m), (1, .int (zz w))] [] [(m, ob 7 [.int (zz ↑np), .ref mP, .ref mW, .int (zz ↑nr), .ref mR, .ref mB, .ref mS, .int (zz ↑ac), .ref mA, .int (zz ↑ke), .ref mK, .int (zz ↑se), .ref mE, .ref mT, .int (zz ↑tl), .int (zz ↑at_), .ref mD, .int (zz ↑rp), .ref nP, .ref nW, .int (zz ↑rr), .ref nR, .ref nB, .ref mN, .ref mO, .ref mQ, .int (zz dp), .ref mX])] (FP (some (.int (zz (countA np nr se ac ke tl w)))) [(m, ob 7 [.int (zz ↑np), .ref mP, .ref mW, .int (zz ↑nr), .ref mR, .ref mB, .ref mS, .int (zz ↑ac), .ref mA, .int (zz ↑ke), .ref mK, .int (zz ↑se), .ref mE, .ref mT, .int (zz ↑tl), .int (zz ↑at_), .ref mD, .int (zz ↑rp), .ref nP, .ref nW, .int (zz ↑rr), .ref nR, .ref nB, .ref mN, .ref mO, .ref mQ, .int (zz dp), .ref mX])])
  refine rr_iload_n 1 dX7_count_0 rfl ?_
  by_cases s_1_0 : w = 0
  · refine rr_tswIn (off := 39) 40 dX7_count_1 (by omega) (by omega) (by omega) (by rw [s_1_0]; rfl) (by decide) ?_
    refine rr_aload_n 0 dX7_count_40 rfl ?_
    refine rr_get fX7_85 0 rfl rfl dX7_count_41 ?_
    exact rr_iret dX7_count_44 rfl rfl ⟨congrArg (fun z => some (Value.int (zz z))) (by unfold countA; simp only [*]; first | rfl | simp | omega), rfl⟩
  by_cases s_1_1 : w = 1
  · refine rr_tswIn (off := 44) 45 dX7_count_1 (by omega) (by omega) (by omega) (by rw [s_1_1]; rfl) (by decide) ?_
    refine rr_aload_n 0 dX7_count_45 rfl ?_
    refine rr_get fX7_92 0 rfl rfl dX7_count_46 ?_
    exact rr_iret dX7_count_49 rfl rfl ⟨congrArg (fun z => some (Value.int (zz z))) (by unfold countA; simp only [*]; first | rfl | simp | omega), rfl⟩
  by_cases s_1_2 : w = 2
  · refine rr_tswIn (off := 49) 50 dX7_count_1 (by omega) (by omega) (by omega) (by rw [s_1_2]; rfl) (by decide) ?_
    refine rr_aload_n 0 dX7_count_50 rfl ?_
    refine rr_get fX7_148 0 rfl rfl dX7_count_51 ?_
    exact rr_iret dX7_count_54 rfl rfl ⟨congrArg (fun z => some (Value.int (zz z))) (by unfold countA; simp only [*]; first | rfl | simp | omega), rfl⟩
  by_cases s_1_3 : w = 3
  · refine rr_tswIn (off := 54) 55 dX7_count_1 (by omega) (by omega) (by omega) (by rw [s_1_3]; rfl) (by decide) ?_
    refine rr_aload_n 0 dX7_count_55 rfl ?_
    refine rr_get fX7_142 0 rfl rfl dX7_count_56 ?_
    exact rr_iret dX7_count_59 rfl rfl ⟨congrArg (fun z => some (Value.int (zz z))) (by unfold countA; simp only [*]; first | rfl | simp | omega), rfl⟩
  by_cases s_1_4 : w = 4
  · refine rr_tswIn (off := 59) 60 dX7_count_1 (by omega) (by omega) (by omega) (by rw [s_1_4]; rfl) (by decide) ?_
    refine rr_aload_n 0 dX7_count_60 rfl ?_
    refine rr_get fX7_145 0 rfl rfl dX7_count_61 ?_
    exact rr_iret dX7_count_64 rfl rfl ⟨congrArg (fun z => some (Value.int (zz z))) (by unfold countA; simp only [*]; first | rfl | simp | omega), rfl⟩
  by_cases s_1_5 : w = 5
  · refine rr_tswIn (off := 64) 65 dX7_count_1 (by omega) (by omega) (by omega) (by rw [s_1_5]; rfl) (by decide) ?_
    refine rr_aload_n 0 dX7_count_65 rfl ?_
    refine rr_get fX7_95 0 rfl rfl dX7_count_66 ?_
    exact rr_iret dX7_count_69 rfl rfl ⟨congrArg (fun z => some (Value.int (zz z))) (by unfold countA; simp only [*]; first | rfl | simp | omega), rfl⟩
  refine rr_tswOut 70 dX7_count_1 (by omega) (by omega) (by decide) ?_
  refine rr_iconst dX7_count_70 ?_
  exact rr_iret dX7_count_71 rfl rfl ⟨congrArg (fun z => some (Value.int (zz z))) (by unfold countA; simp only [*]; first | rfl | simp | omega), rfl⟩
