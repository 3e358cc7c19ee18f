set_option maxRecDepth 100000 in
set_option maxHeartbeats 400000 in
theorem c_in (E : Ev) (d : Nat) (v l h : Int) (gv : -2147483648 ≤ v ∧ v < 2147483648) (gl : -2147483648 ≤ l ∧ l < 2147483648) (gh : -2147483648 ≤ h ∧ h < 2147483648) : SP E mX7_in (d + 0) 0 0 [.int (zz v), .int (zz l), .int (zz h)] [] (FP (some (.int (zz (bI (decide (l ≤ v ∧ v ≤ h)))))) []) := by
  show RR E mX7_in (d + 0) 0 0 0 [(0, .int (zz v)), (1, .int (zz l)), (2, .int (zz h))] [] [] (FP (some (.int (zz (bI (decide (l ≤ v ∧ v ≤ h)))))) [])
  refine rr_iload_n 0 dX7_in_0 rfl ?_
  refine rr_iload_n 1 dX7_in_1 rfl ?_
  refine rr_icmp_lt 14 dX7_in_2 (by decide) (by omega) (by omega) (fun c_1 => ?_) (fun c_1 => ?_)
  · skip
    refine rr_iconst dX7_in_14 ?_
    exact rr_iret dX7_in_15 rfl rfl ⟨congrArg (fun z => some (Value.int (zz z))) (by unfold bI; simp <;> omega), rfl⟩
  · skip
    refine rr_iload_n 0 dX7_in_5 rfl ?_
    refine rr_iload_n 2 dX7_in_6 rfl ?_
    refine rr_icmp_gt 14 dX7_in_7 (by decide) (by omega) (by omega) (fun c_2 => ?_) (fun c_2 => ?_)
    · skip
      refine rr_iconst dX7_in_14 ?_
      exact rr_iret dX7_in_15 rfl rfl ⟨congrArg (fun z => some (Value.int (zz z))) (by unfold bI; simp <;> omega), rfl⟩
    · skip
      refine rr_iconst dX7_in_10 ?_
      refine rr_goto 15 dX7_in_11 (by decide) ?_
      exact rr_iret dX7_in_15 rfl rfl ⟨congrArg (fun z => some (Value.int (zz z))) (by unfold bI; simp <;> omega), rfl⟩
set_option maxRecDepth 100000 in
set_option maxHeartbeats 400000 in
theorem c_MisPeg (E : Ev) (d : Nat) (m mP mW mR mB mS mA mK mE mT mD nP nW nR nB mN mO mQ mX : Nat) (np nr ac ke se tl at_ rp rr : Nat) (dp : Int) (i : Int) (hn : np ≤ 7) (hi : -2147483648 ≤ i ∧ i < 2147483648) : SP E mX7_isPeg (d + 1) 0 0 [.ref m, .int (zz i)] [(m, ob 7 [.int (zz ↑np), .ref mP, .ref mW, .int (zz ↑nr), .ref mR, .ref mB, .ref mS, .int (zz ↑ac), .ref mA, .int (zz ↑ke), .ref mK, .int (zz ↑se), .ref mE, .ref mT, .int (zz ↑tl), .int (zz ↑at_), .ref mD, .int (zz ↑rp), .ref nP, .ref nW, .int (zz ↑rr), .ref nR, .ref nB, .ref mN, .ref mO, .ref mQ, .int (zz dp), .ref mX])] (FP (some (.int (zz (bI (decide (0 ≤ i ∧ i < (np : Int))))))) [(m, ob 7 [.int (zz ↑np), .ref mP, .ref mW, .int (zz ↑nr), .ref mR, .ref mB, .ref mS, .int (zz ↑ac), .ref mA, .int (zz ↑ke), .ref mK, .int (zz ↑se), .ref mE, .ref mT, .int (zz ↑tl), .int (zz ↑at_), .ref mD, .int (zz ↑rp), .ref nP, .ref nW, .int (zz ↑rr), .ref nR, .ref nB, .ref mN, .ref mO, .ref mQ, .int (zz dp), .ref mX])]) := by
  show RR E mX7_isPeg (d + 1) 0 0 0 [(0, .ref m), (1, .int (zz i))] [] [(m, ob 7 [.int (zz ↑np), .ref mP, .ref mW, .int (zz ↑nr), .ref mR, .ref mB, .ref mS, .int (zz ↑ac), .ref mA, .int (zz ↑ke), .ref mK, .int (zz ↑se), .ref mE, .ref mT, .int (zz ↑tl), .int (zz ↑at_), .ref mD, .int (zz ↑rp), .ref nP, .ref nW, .int (zz ↑rr), .ref nR, .ref nB, .ref mN, .ref mO, .ref mQ, .int (zz dp), .ref mX])] (FP (some (.int (zz (bI (decide (0 ≤ i ∧ i < (np : Int))))))) [(m, ob 7 [.int (zz ↑np), .ref mP, .ref mW, .int (zz ↑nr), .ref mR, .ref mB, .ref mS, .int (zz ↑ac), .ref mA, .int (zz ↑ke), .ref mK, .int (zz ↑se), .ref mE, .ref mT, .int (zz ↑tl), .int (zz ↑at_), .ref mD, .int (zz ↑rp), .ref nP, .ref nW, .int (zz ↑rr), .ref nR, .ref nB, .ref mN, .ref mO, .ref mQ, .int (zz dp), .ref mX])])
  refine rr_iload_n 1 dX7_isPeg_0 rfl ?_
  refine rr_iconst dX7_isPeg_1 ?_
  refine rr_aload_n 0 dX7_isPeg_2 rfl ?_
  refine rr_get fX7_85 0 rfl rfl dX7_isPeg_3 ?_
  refine rr_iconst dX7_isPeg_6 ?_
  refine rr_isub dX7_isPeg_7 ?_
  obtain ⟨qq, hqq⟩ : ∃ q : Int, (np : Int) - 1 = q := ⟨_, rfl⟩
  refine rr_top (b := qq) hqq ?_
  refine rr_callFi (ws2 := [(m, ob 7 [.int (zz ↑np), .ref mP, .ref mW, .int (zz ↑nr), .ref mR, .ref mB, .ref mS, .int (zz ↑ac), .ref mA, .int (zz ↑ke), .ref mK, .int (zz ↑se), .ref mE, .ref mT, .int (zz ↑tl), .int (zz ↑at_), .ref mD, .int (zz ↑rp), .ref nP, .ref nW, .int (zz ↑rr), .ref nR, .ref nB, .ref mN, .ref mO, .ref mQ, .int (zz dp), .ref mX])]) (wr := [(m, ob 7 [.int (zz ↑np), .ref mP, .ref mW, .int (zz ↑nr), .ref mR, .ref mB, .ref mS, .int (zz ↑ac), .ref mA, .int (zz ↑ke), .ref mK, .int (zz ↑se), .ref mE, .ref mT, .int (zz ↑tl), .int (zz ↑at_), .ref mD, .int (zz ↑rp), .ref nP, .ref nW, .int (zz ↑rr), .ref nR, .ref nB, .ref mN, .ref mO, .ref mQ, .int (zz dp), .ref mX])]) (call_S kX7_88 (c_in E (d + 0) i 0 qq (by omega) (by omega) (by omega)) rfl (by omega) (by decide) (Nat.le_of_ble_eq_true rfl) (Nat.le_of_ble_eq_true rfl) dX7_isPeg_8) [] [0] [0] rfl rfl rfl rfl rfl rfl rfl ?_
  exact rr_iret dX7_isPeg_11 rfl (nar_b _) ⟨congrArg (fun z => some (Value.int (zz z))) (by unfold bI; simp only [decide_eq_true_eq]; split <;> split <;> first | rfl | omega), rfl⟩
set_option maxRecDepth 100000 in
set_option maxHeartbeats 400000 in
theorem c_MisRoof (E : Ev) (d : Nat) (m mP mW mR mB mS mA mK mE mT mD nP nW nR nB mN mO mQ mX : Nat) (np nr ac ke se tl at_ rp rr : Nat) (dp : Int) (i : Int) (hn : nr ≤ 7) (hi : -2147483648 ≤ i ∧ i < 2147483648) : SP E mX7_isRoof (d + 1) 0 0 [.ref m, .int (zz i)] [(m, ob 7 [.int (zz ↑np), .ref mP, .ref mW, .int (zz ↑nr), .ref mR, .ref mB, .ref mS, .int (zz ↑ac), .ref mA, .int (zz ↑ke), .ref mK, .int (zz ↑se), .ref mE, .ref mT, .int (zz ↑tl), .int (zz ↑at_), .ref mD, .int (zz ↑rp), .ref nP, .ref nW, .int (zz ↑rr), .ref nR, .ref nB, .ref mN, .ref mO, .ref mQ, .int (zz dp), .ref mX])] (FP (some (.int (zz (bI (decide (0 ≤ i ∧ i < (nr : Int))))))) [(m, ob 7 [.int (zz ↑np), .ref mP, .ref mW, .int (zz ↑nr), .ref mR, .ref mB, .ref mS, .int (zz ↑ac), .ref mA, .int (zz ↑ke), .ref mK, .int (zz ↑se), .ref mE, .ref mT, .int (zz ↑tl), .int (zz ↑at_), .ref mD, .int (zz ↑rp), .ref nP, .ref nW, .int (zz ↑rr), .ref nR, .ref nB, .ref mN, .ref mO, .ref mQ, .int (zz dp), .ref mX])]) := by
  show RR E mX7_isRoof (d + 1) 0 0 0 [(0, .ref m), (1, .int (zz i))] [] [(m, ob 7 [.int (zz ↑np), .ref mP, .ref mW, .int (zz ↑nr), .ref mR, .ref mB, .ref mS, .int (zz ↑ac), .ref mA, .int (zz ↑ke), .ref mK, .int (zz ↑se), .ref mE, .ref mT, .int (zz ↑tl), .int (zz ↑at_), .ref mD, .int (zz ↑rp), .ref nP, .ref nW, .int (zz ↑rr), .ref nR, .ref nB, .ref mN, .ref mO, .ref mQ, .int (zz dp), .ref mX])] (FP (some (.int (zz (bI (decide (0 ≤ i ∧ i < (nr : Int))))))) [(m, ob 7 [.int (zz ↑np), .ref mP, .ref mW, .int (zz ↑nr), .ref mR, .ref mB, .ref mS, .int (zz ↑ac), .ref mA, .int (zz ↑ke), .ref mK, .int (zz ↑se), .ref mE, .ref mT, .int (zz ↑tl), .int (zz ↑at_), .ref mD, .int (zz ↑rp), .ref nP, .ref nW, .int (zz ↑rr), .ref nR, .ref nB, .ref mN, .ref mO, .ref mQ, .int (zz dp), .ref mX])])
  refine rr_iload_n 1 dX7_isRoof_0 rfl ?_
  refine rr_iconst dX7_isRoof_1 ?_
  refine rr_aload_n 0 dX7_isRoof_2 rfl ?_
  refine rr_get fX7_92 0 rfl rfl dX7_isRoof_3 ?_
  refine rr_iconst dX7_isRoof_6 ?_
  refine rr_isub dX7_isRoof_7 ?_
  obtain ⟨qq, hqq⟩ : ∃ q : Int, (nr : Int) - 1 = q := ⟨_, rfl⟩
  refine rr_top (b := qq) hqq ?_
  refine rr_callFi (ws2 := [(m, ob 7 [.int (zz ↑np), .ref mP, .ref mW, .int (zz ↑nr), .ref mR, .ref mB, .ref mS, .int (zz ↑ac), .ref mA, .int (zz ↑ke), .ref mK, .int (zz ↑se), .ref mE, .ref mT, .int (zz ↑tl), .int (zz ↑at_), .ref mD, .int (zz ↑rp), .ref nP, .ref nW, .int (zz ↑rr), .ref nR, .ref nB, .ref mN, .ref mO, .ref mQ, .int (zz dp), .ref mX])]) (wr := [(m, ob 7 [.int (zz ↑np), .ref mP, .ref mW, .int (zz ↑nr), .ref mR, .ref mB, .ref mS, .int (zz ↑ac), .ref mA, .int (zz ↑ke), .ref mK, .int (zz ↑se), .ref mE, .ref mT, .int (zz ↑tl), .int (zz ↑at_), .ref mD, .int (zz ↑rp), .ref nP, .ref nW, .int (zz ↑rr), .ref nR, .ref nB, .ref mN, .ref mO, .ref mQ, .int (zz dp), .ref mX])]) (call_S kX7_88 (c_in E (d + 0) i 0 qq (by omega) (by omega) (by omega)) rfl (by omega) (by decide) (Nat.le_of_ble_eq_true rfl) (Nat.le_of_ble_eq_true rfl) dX7_isRoof_8) [] [0] [0] rfl rfl rfl rfl rfl rfl rfl ?_
  exact rr_iret dX7_isRoof_11 rfl (nar_b _) ⟨congrArg (fun z => some (Value.int (zz z))) (by unfold bI; simp only [decide_eq_true_eq]; split <;> split <;> first | rfl | omega), rfl⟩
set_option maxRecDepth 100000 in
set_option maxHeartbeats 400000 in
theorem c_bounded (E : Ev) (d : Nat) (v : Int) (gv : -2147483648 ≤ v ∧ v < 2147483648) : SP E mX7_bounded (d + 0) 0 0 [.int (zz v)] [] (FP (some (.int (zz (clampI v 9)))) []) := by
  show RR E mX7_bounded (d + 0) 0 0 0 [(0, .int (zz v))] [] [] (FP (some (.int (zz (clampI v 9)))) [])
  refine rr_iload_n 0 dX7_bounded_0 rfl ?_
  refine rr_if_ge 8 dX7_bounded_1 (by decide) (by omega) (fun c_1 => ?_) (fun c_1 => ?_)
  · skip
    refine rr_iload_n 0 dX7_bounded_8 rfl ?_
    refine rr_bipush dX7_bounded_9 (by decide) ?_
    refine rr_icmp_le 19 dX7_bounded_11 (by decide) (by omega) (by omega) (fun c_2 => ?_) (fun c_2 => ?_)
    · skip
      refine rr_iload_n 0 dX7_bounded_19 rfl ?_
      exact rr_iret dX7_bounded_20 rfl rfl ⟨congrArg (fun z => some (Value.int (zz z))) (by unfold clampI; (repeat' split) <;> omega), rfl⟩
    · skip
      refine rr_bipush dX7_bounded_14 (by decide) ?_
      refine rr_goto 20 dX7_bounded_16 (by decide) ?_
      exact rr_iret dX7_bounded_20 rfl rfl ⟨congrArg (fun z => some (Value.int (zz z))) (by unfold clampI; (repeat' split) <;> omega), rfl⟩
  · skip
    refine rr_iconst dX7_bounded_4 ?_
    refine rr_goto 20 dX7_bounded_5 (by decide) ?_
    exact rr_iret dX7_bounded_20 rfl rfl ⟨congrArg (fun z => some (Value.int (zz z))) (by unfold clampI; (repeat' split) <;> omega), rfl⟩
set_option maxRecDepth 100000 in
set_option maxHeartbeats 400000 in
theorem c_lifts (E : Ev) (d : Nat) (k u c r : Int) (b : Bool) (hk : 0 ≤ k ∧ k ≤ 3) (hu : -2147483648 ≤ u ∧ u < 2147483648) (hc : -2147483648 ≤ c ∧ c < 2147483648) (hr : -2147483648 ≤ r ∧ r < 2147483648) : SP E mX7_lifts (d + 0) 0 0 [.int (zz k), .int (zz u), .int (zz c), .int (zz (bI b)), .int (zz r)] [] (FP (some (.int (zz (liftF k u c b r)))) []) := by
  show RR E mX7_lifts (d + 0) 0 0 0 [(0, .int (zz k)), (1, .int (zz u)), (2, .int (zz c)), (3, .int (zz (bI b))), (4, .int (zz r))] [] [] (FP (some (.int (zz (liftF k u c b r)))) [])
  refine rr_iload_n 0 dX7_lifts_0 rfl ?_
  by_cases s_1_0 : k = 1
  · refine rr_tswIn (off := 27) 28 dX7_lifts_1 (by omega) (by omega) (by omega) (by rw [s_1_0]; rfl) (by decide) ?_
    refine rr_iload_n 3 dX7_lifts_28 rfl ?_
    refine rr_if_eqB 40 dX7_lifts_29 (by decide) (fun c_2 => ?_) (fun c_2 => ?_)
    · skip
      refine rr_iload_n 1 dX7_lifts_40 rfl ?_
      refine rr_iconst dX7_lifts_41 ?_
      refine rr_isub dX7_lifts_42 ?_
      exact rr_iret dX7_lifts_43 rfl rfl ⟨congrArg (fun z => some (Value.int (zz z))) (by unfold liftF; simp_all <;> omega), rfl⟩
    · skip
      refine rr_iconst dX7_lifts_32 ?_
      refine rr_iload_n 1 dX7_lifts_33 rfl ?_
      refine rr_iconst dX7_lifts_34 ?_
      refine rr_isub dX7_lifts_35 ?_
      refine rr_imul dX7_lifts_36 ?_
      refine rr_goto 43 dX7_lifts_37 (by decide) ?_
      exact rr_iret dX7_lifts_43 rfl rfl ⟨congrArg (fun z => some (Value.int (zz z))) (by unfold liftF; simp_all <;> omega), rfl⟩
  by_cases s_1_1 : k = 2
  · refine rr_tswIn (off := 43) 44 dX7_lifts_1 (by omega) (by omega) (by omega) (by rw [s_1_1]; rfl) (by decide) ?_
    refine rr_iload_n 2 dX7_lifts_44 rfl ?_
    refine rr_iconst dX7_lifts_45 ?_
    refine rr_icmp_le 55 dX7_lifts_46 (by decide) (by omega) (by omega) (fun c_3 => ?_) (fun c_3 => ?_)
    · skip
      refine rr_iload_n 1 dX7_lifts_55 rfl ?_
      refine rr_iconst dX7_lifts_56 ?_
      refine rr_isub dX7_lifts_57 ?_
      exact rr_iret dX7_lifts_58 rfl rfl ⟨congrArg (fun z => some (Value.int (zz z))) (by unfold liftF; simp_all <;> omega), rfl⟩
    · skip
      refine rr_iconst dX7_lifts_49 ?_
      refine rr_iload_n 1 dX7_lifts_50 rfl ?_
      refine rr_isub dX7_lifts_51 ?_
      refine rr_goto 58 dX7_lifts_52 (by decide) ?_
      exact rr_iret dX7_lifts_58 rfl rfl ⟨congrArg (fun z => some (Value.int (zz z))) (by unfold liftF; simp_all <;> omega), rfl⟩
  by_cases s_1_2 : k = 3
  · refine rr_tswIn (off := 58) 59 dX7_lifts_1 (by omega) (by omega) (by omega) (by rw [s_1_2]; rfl) (by decide) ?_
    refine rr_iload 4 dX7_lifts_59 rfl ?_
    refine rr_iconst dX7_lifts_61 ?_
    refine rr_icmp_ne 72 dX7_lifts_62 (by decide) (by omega) (by omega) (fun c_4 => ?_) (fun c_4 => ?_)
    · skip
      refine rr_iload_n 1 dX7_lifts_72 rfl ?_
      refine rr_iconst dX7_lifts_73 ?_
      refine rr_isub dX7_lifts_74 ?_
      exact rr_iret dX7_lifts_75 rfl rfl ⟨congrArg (fun z => some (Value.int (zz z))) (by unfold liftF; simp_all <;> omega), rfl⟩
    · skip
      refine rr_iload_n 1 dX7_lifts_65 rfl ?_
      refine rr_bipush dX7_lifts_66 (by decide) ?_
      refine rr_isub dX7_lifts_68 ?_
      refine rr_goto 75 dX7_lifts_69 (by decide) ?_
      exact rr_iret dX7_lifts_75 rfl rfl ⟨congrArg (fun z => some (Value.int (zz z))) (by unfold liftF; simp_all <;> omega), rfl⟩
  refine rr_tswOut 76 dX7_lifts_1 (by omega) (by omega) (by decide) ?_
  refine rr_iload_n 1 dX7_lifts_76 rfl ?_
  refine rr_iconst dX7_lifts_77 ?_
  refine rr_isub dX7_lifts_78 ?_
  exact rr_iret dX7_lifts_79 rfl rfl ⟨congrArg (fun z => some (Value.int (zz z))) (by unfold liftF; simp_all <;> omega), rfl⟩
set_option maxRecDepth 100000 in
set_option maxHeartbeats 400000 in
theorem c_MisDown (E : Ev) (d : Nat) (m mP mW mR mB mS mA mK mE mT mD nP nW nR nB mN mO mQ mX : Nat) (np nr ac ke se tl at_ rp rr : Nat) (dp : Int) (nw : Nat → Int) (h2 : 0 ≤ nw 2 ∧ nw 2 ≤ 9) : SP E mX7_isDown (d + 0) 0 0 [.ref m] [(m, ob 7 [.int (zz ↑np), .ref mP, .ref mW, .int (zz ↑nr), .ref mR, .ref mB, .ref mS, .int (zz ↑ac), .ref mA, .int (zz ↑ke), .ref mK, .int (zz ↑se), .ref mE, .ref mT, .int (zz ↑tl), .int (zz ↑at_), .ref mD, .int (zz ↑rp), .ref nP, .ref nW, .int (zz ↑rr), .ref nR, .ref nB, .ref mN, .ref mO, .ref mQ, .int (zz dp), .ref mX]), (mN, aI E 7 nw)] (FP (some (.int (zz (bI (decide (nw 2 = 0)))))) [(m, ob 7 [.int (zz ↑np), .ref mP, .ref mW, .int (zz ↑nr), .ref mR, .ref mB, .ref mS, .int (zz ↑ac), .ref mA, .int (zz ↑ke), .ref mK, .int (zz ↑se), .ref mE, .ref mT, .int (zz ↑tl), .int (zz ↑at_), .ref mD, .int (zz ↑rp), .ref nP, .ref nW, .int (zz ↑rr), .ref nR, .ref nB, .ref mN, .ref mO, .ref mQ, .int (zz dp), .ref mX]), (mN, aI E 7 nw)]) := by
  show RR E mX7_isDown (d + 0) 0 0 0 [(0, .ref m)] [] [(m, ob 7 [.int (zz ↑np), .ref mP, .ref mW, .int (zz ↑nr), .ref mR, .ref mB, .ref mS, .int (zz ↑ac), .ref mA, .int (zz ↑ke), .ref mK, .int (zz ↑se), .ref mE, .ref mT, .int (zz ↑tl), .int (zz ↑at_), .ref mD, .int (zz ↑rp), .ref nP, .ref nW, .int (zz ↑rr), .ref nR, .ref nB, .ref mN, .ref mO, .ref mQ, .int (zz dp), .ref mX]), (mN, aI E 7 nw)] (FP (some (.int (zz (bI (decide (nw 2 = 0)))))) [(m, ob 7 [.int (zz ↑np), .ref mP, .ref mW, .int (zz ↑nr), .ref mR, .ref mB, .ref mS, .int (zz ↑ac), .ref mA, .int (zz ↑ke), .ref mK, .int (zz ↑se), .ref mE, .ref mT, .int (zz ↑tl), .int (zz ↑at_), .ref mD, .int (zz ↑rp), .ref nP, .ref nW, .int (zz ↑rr), .ref nR, .ref nB, .ref mN, .ref mO, .ref mQ, .int (zz dp), .ref mX]), (mN, aI E 7 nw)])
  refine rr_aload_n 0 dX7_isDown_0 rfl ?_
  refine rr_get fX7_52 0 rfl rfl dX7_isDown_1 ?_
  refine rr_iconst dX7_isDown_4 ?_
  refine rr_iald 1 2 rfl rfl (by omega) (by omega) dX7_isDown_5 ?_
  refine rr_if_ne 13 dX7_isDown_6 (by decide) (by omega) (fun c_1 => ?_) (fun c_1 => ?_)
  · skip
    refine rr_iconst dX7_isDown_13 ?_
    exact rr_iret dX7_isDown_14 rfl rfl ⟨congrArg (fun z => some (Value.int (zz z))) (by simp [bI, *]), rfl⟩
  · skip
    refine rr_iconst dX7_isDown_9 ?_
    refine rr_goto 14 dX7_isDown_10 (by decide) ?_
    exact rr_iret dX7_isDown_14 rfl rfl ⟨congrArg (fun z => some (Value.int (zz z))) (by simp [bI, *]), rfl⟩
set_option maxRecDepth 100000 in
set_option maxHeartbeats 400000 in
theorem c_isOver (E : Ev) (d : Nat) (m mP mW mR mB mS mA mK mE mT mD nP nW nR nB mN mO mQ mX : Nat) (np nr ac ke se tl at_ rp rr : Nat) (dp : Int) (ro nw : Nat → Int) (r : Nat) (hr : roOK nr ro) (hw : mOK np nw) (hi : r < nr) : SP E mX7_isOver (d + 0) 0 0 [.ref m, .int (zz ↑r)] [(m, ob 7 [.int (zz ↑np), .ref mP, .ref mW, .int (zz ↑nr), .ref mR, .ref mB, .ref mS, .int (zz ↑ac), .ref mA, .int (zz ↑ke), .ref mK, .int (zz ↑se), .ref mE, .ref mT, .int (zz ↑tl), .int (zz ↑at_), .ref mD, .int (zz ↑rp), .ref nP, .ref nW, .int (zz ↑rr), .ref nR, .ref nB, .ref mN, .ref mO, .ref mQ, .int (zz dp), .ref mX]), (mR, aI E 12 ro), (mN, aI E 7 nw)] (FP (some (.int (zz (bI (ovM ro (nw 0) (nw 1) r))))) [(m, ob 7 [.int (zz ↑np), .ref mP, .ref mW, .int (zz ↑nr), .ref mR, .ref mB, .ref mS, .int (zz ↑ac), .ref mA, .int (zz ↑ke), .ref mK, .int (zz ↑se), .ref mE, .ref mT, .int (zz ↑tl), .int (zz ↑at_), .ref mD, .int (zz ↑rp), .ref nP, .ref nW, .int (zz ↑rr), .ref nR, .ref nB, .ref mN, .ref mO, .ref mQ, .int (zz dp), .ref mX]), (mR, aI E 12 ro), (mN, aI E 7 nw)]) := by
  show RR E mX7_isOver (d + 0) 0 0 0 [(0, .ref m), (1, .int (zz ↑r))] [] [(m, ob 7 [.int (zz ↑np), .ref mP, .ref mW, .int (zz ↑nr), .ref mR, .ref mB, .ref mS, .int (zz ↑ac), .ref mA, .int (zz ↑ke), .ref mK, .int (zz ↑se), .ref mE, .ref mT, .int (zz ↑tl), .int (zz ↑at_), .ref mD, .int (zz ↑rp), .ref nP, .ref nW, .int (zz ↑rr), .ref nR, .ref nB, .ref mN, .ref mO, .ref mQ, .int (zz dp), .ref mX]), (mR, aI E 12 ro), (mN, aI E 7 nw)] (FP (some (.int (zz (bI (ovM ro (nw 0) (nw 1) r))))) [(m, ob 7 [.int (zz ↑np), .ref mP, .ref mW, .int (zz ↑nr), .ref mR, .ref mB, .ref mS, .int (zz ↑ac), .ref mA, .int (zz ↑ke), .ref mK, .int (zz ↑se), .ref mE, .ref mT, .int (zz ↑tl), .int (zz ↑at_), .ref mD, .int (zz ↑rp), .ref nP, .ref nW, .int (zz ↑rr), .ref nR, .ref nB, .ref mN, .ref mO, .ref mQ, .int (zz dp), .ref mX]), (mR, aI E 12 ro), (mN, aI E 7 nw)])
  obtain ⟨n0, n1, n2, n3, n5, n6⟩ := id hw
  have hr1 := hr.1
  obtain ⟨x0, y0⟩ := hr.2 r hi
  refine rr_aload_n 0 dX7_isOver_0 rfl ?_
  refine rr_get fX7_16 0 rfl rfl dX7_isOver_1 ?_
  refine rr_iconst dX7_isOver_4 ?_
  refine rr_iload_n 1 dX7_isOver_5 rfl ?_
  refine rr_imul dX7_isOver_6 ?_
  refine rr_iald 1 (2 * r) rfl (by omega) (by omega) (by omega) dX7_isOver_7 ?_
  refine rr_aload_n 0 dX7_isOver_8 rfl ?_
  refine rr_get fX7_52 0 rfl rfl dX7_isOver_9 ?_
  refine rr_iconst dX7_isOver_12 ?_
  refine rr_iald 2 0 rfl rfl (by omega) (by omega) dX7_isOver_13 ?_
  refine rr_icmp_ne 40 dX7_isOver_14 (by decide) (by omega) (by omega) (fun c_1 => ?_) (fun c_1 => ?_)
  · skip
    refine rr_iconst dX7_isOver_40 ?_
    exact rr_iret dX7_isOver_41 rfl rfl ⟨congrArg (fun z => some (Value.int (zz z))) (by unfold ovM bI; simp <;> omega), rfl⟩
  · skip
    refine rr_aload_n 0 dX7_isOver_17 rfl ?_
    refine rr_get fX7_16 0 rfl rfl dX7_isOver_18 ?_
    refine rr_iconst dX7_isOver_21 ?_
    refine rr_iload_n 1 dX7_isOver_22 rfl ?_
    refine rr_imul dX7_isOver_23 ?_
    refine rr_iconst dX7_isOver_24 ?_
    refine rr_iadd dX7_isOver_25 ?_
    refine rr_iald 1 ((2 * r) + 1) rfl (by omega) (by omega) (by omega) dX7_isOver_26 ?_
    refine rr_aload_n 0 dX7_isOver_27 rfl ?_
    refine rr_get fX7_52 0 rfl rfl dX7_isOver_28 ?_
    refine rr_iconst dX7_isOver_31 ?_
    refine rr_iald 2 1 rfl rfl (by omega) (by omega) dX7_isOver_32 ?_
    refine rr_icmp_ne 40 dX7_isOver_33 (by decide) (by omega) (by omega) (fun c_2 => ?_) (fun c_2 => ?_)
    · skip
      refine rr_iconst dX7_isOver_40 ?_
      exact rr_iret dX7_isOver_41 rfl rfl ⟨congrArg (fun z => some (Value.int (zz z))) (by unfold ovM bI; simp <;> omega), rfl⟩
    · skip
      refine rr_iconst dX7_isOver_36 ?_
      refine rr_goto 41 dX7_isOver_37 (by decide) ?_
      exact rr_iret dX7_isOver_41 rfl rfl ⟨congrArg (fun z => some (Value.int (zz z))) (by unfold ovM bI; simp <;> omega), rfl⟩
set_option maxRecDepth 100000 in
set_option maxHeartbeats 400000 in
theorem c_MhasLanded (E : Ev) (d : Nat) (m mP mW mR mB mS mA mK mE mT mD nP nW nR nB mN mO mQ mX : Nat) (np nr ac ke se tl at_ rp rr : Nat) (dp : Int) (ro nw : Nat → Int) (hr : roOK nr ro) (hw : mOK np nw) : SP E mX7_hasLanded (d + 1) 0 0 [.ref m] [(m, ob 7 [.int (zz ↑np), .ref mP, .ref mW, .int (zz ↑nr), .ref mR, .ref mB, .ref mS, .int (zz ↑ac), .ref mA, .int (zz ↑ke), .ref mK, .int (zz ↑se), .ref mE, .ref mT, .int (zz ↑tl), .int (zz ↑at_), .ref mD, .int (zz ↑rp), .ref nP, .ref nW, .int (zz ↑rr), .ref nR, .ref nB, .ref mN, .ref mO, .ref mQ, .int (zz dp), .ref mX]), (mR, aI E 12 ro), (mN, aI E 7 nw)] (FP (some (.int (zz (bI (laM nr ro nw))))) [(m, ob 7 [.int (zz ↑np), .ref mP, .ref mW, .int (zz ↑nr), .ref mR, .ref mB, .ref mS, .int (zz ↑ac), .ref mA, .int (zz ↑ke), .ref mK, .int (zz ↑se), .ref mE, .ref mT, .int (zz ↑tl), .int (zz ↑at_), .ref mD, .int (zz ↑rp), .ref nP, .ref nW, .int (zz ↑rr), .ref nR, .ref nB, .ref mN, .ref mO, .ref mQ, .int (zz dp), .ref mX]), (mR, aI E 12 ro), (mN, aI E 7 nw)]) := by
  show RR E mX7_hasLanded (d + 1) 0 0 0 [(0, .ref m)] [] [(m, ob 7 [.int (zz ↑np), .ref mP, .ref mW, .int (zz ↑nr), .ref mR, .ref mB, .ref mS, .int (zz ↑ac), .ref mA, .int (zz ↑ke), .ref mK, .int (zz ↑se), .ref mE, .ref mT, .int (zz ↑tl), .int (zz ↑at_), .ref mD, .int (zz ↑rp), .ref nP, .ref nW, .int (zz ↑rr), .ref nR, .ref nB, .ref mN, .ref mO, .ref mQ, .int (zz dp), .ref mX]), (mR, aI E 12 ro), (mN, aI E 7 nw)] (FP (some (.int (zz (bI (laM nr ro nw))))) [(m, ob 7 [.int (zz ↑np), .ref mP, .ref mW, .int (zz ↑nr), .ref mR, .ref mB, .ref mS, .int (zz ↑ac), .ref mA, .int (zz ↑ke), .ref mK, .int (zz ↑se), .ref mE, .ref mT, .int (zz ↑tl), .int (zz ↑at_), .ref mD, .int (zz ↑rp), .ref nP, .ref nW, .int (zz ↑rr), .ref nR, .ref nB, .ref mN, .ref mO, .ref mQ, .int (zz dp), .ref mX]), (mR, aI E 12 ro), (mN, aI E 7 nw)])
  obtain ⟨n0, n1, n2, n3, n5, n6⟩ := id hw
  have hr1 := hr.1
  have lp : ∀ (n i : Nat), i + n = nr → RR E mX7_hasLanded (d + 1) 0 0 4 [(0, .ref m), (1, .int (zz (bI (decide (nw 2 = 0) && anyTo (ovM ro (nw 0) (nw 1)) i)))), (2, .int (zz ↑i))] [] [(m, ob 7 [.int (zz ↑np), .ref mP, .ref mW, .int (zz ↑nr), .ref mR, .ref mB, .ref mS, .int (zz ↑ac), .ref mA, .int (zz ↑ke), .ref mK, .int (zz ↑se), .ref mE, .ref mT, .int (zz ↑tl), .int (zz ↑at_), .ref mD, .int (zz ↑rp), .ref nP, .ref nW, .int (zz ↑rr), .ref nR, .ref nB, .ref mN, .ref mO, .ref mQ, .int (zz dp), .ref mX]), (mR, aI E 12 ro), (mN, aI E 7 nw)] (FP (some (.int (zz (bI (laM nr ro nw))))) [(m, ob 7 [.int (zz ↑np), .ref mP, .ref mW, .int (zz ↑nr), .ref mR, .ref mB, .ref mS, .int (zz ↑ac), .ref mA, .int (zz ↑ke), .ref mK, .int (zz ↑se), .ref mE, .ref mT, .int (zz ↑tl), .int (zz ↑at_), .ref mD, .int (zz ↑rp), .ref nP, .ref nW, .int (zz ↑rr), .ref nR, .ref nB, .ref mN, .ref mO, .ref mQ, .int (zz dp), .ref mX]), (mR, aI E 12 ro), (mN, aI E 7 nw)]) := by
    intro n
    induction n with
    | zero =>
      intro i h1
      obtain rfl : i = nr := by omega
      refine rr_iload_n 2 dX7_hasLanded_4 rfl ?_
      refine rr_aload_n 0 dX7_hasLanded_5 rfl ?_
      refine rr_get fX7_92 0 rfl rfl dX7_hasLanded_6 ?_
      refine rr_icmp_ge 43 dX7_hasLanded_9 (by decide) (by omega) (by omega) (fun c_1 => ?_) (fun c_1 => ?_)
      · skip
        refine rr_iload_n 1 dX7_hasLanded_43 rfl ?_
        exact rr_iret dX7_hasLanded_44 rfl (nar_b _) ⟨rfl, rfl⟩
      · skip
        exfalso; omega
    | succ n ih =>
      intro i h1
      have hi : i < nr := by omega
      refine rr_iload_n 2 dX7_hasLanded_4 rfl ?_
      refine rr_aload_n 0 dX7_hasLanded_5 rfl ?_
      refine rr_get fX7_92 0 rfl rfl dX7_hasLanded_6 ?_
      refine rr_icmp_ge 43 dX7_hasLanded_9 (by decide) (by omega) (by omega) (fun c_2 => ?_) (fun c_2 => ?_)
      · skip
        exfalso; omega
      · skip
        refine rr_iload_n 1 dX7_hasLanded_12 rfl ?_
        refine rr_if_neB 31 dX7_hasLanded_13 (by decide) (fun ha => ?_) (fun ha => ?_)
        · skip
          refine rr_iconst dX7_hasLanded_31 ?_
          refine rr_goto 36 dX7_hasLanded_32 (by decide) ?_
          refine rr_istore_n (lv2 := [(0, .ref m), (1, .int (zz 1)), (2, .int (zz ↑i))]) dX7_hasLanded_36 (by decide) rfl ?_
          refine rr_iinc (lv2 := [(0, .ref m), (1, .int (zz 1)), (2, .int (zz (↑(i + 1))))]) 2 dX7_hasLanded_37 rfl (by decide) rfl ?_
          refine rr_goto 4 dX7_hasLanded_40 (by decide) ?_
          refine RR.eq (lv2 := [(0, .ref m), (1, .int (zz (bI (decide (nw 2 = 0) && anyTo (ovM ro (nw 0) (nw 1)) (i + 1))))), (2, .int (zz (↑(i + 1))))]) rfl (by rw [anyTo]; simp_all [bI]) rfl rfl ?_
          exact ih (i + 1) (by omega)
        · skip
          refine rr_aload_n 0 dX7_hasLanded_16 rfl ?_
          refine rr_callFi (ws2 := [(m, ob 7 [.int (zz ↑np), .ref mP, .ref mW, .int (zz ↑nr), .ref mR, .ref mB, .ref mS, .int (zz ↑ac), .ref mA, .int (zz ↑ke), .ref mK, .int (zz ↑se), .ref mE, .ref mT, .int (zz ↑tl), .int (zz ↑at_), .ref mD, .int (zz ↑rp), .ref nP, .ref nW, .int (zz ↑rr), .ref nR, .ref nB, .ref mN, .ref mO, .ref mQ, .int (zz dp), .ref mX]), (mR, aI E 12 ro), (mN, aI E 7 nw)]) (wr := [(mR, aI E 12 ro)]) (call_V (q0 := 0) kX7_151 (c_MisDown E (d + 0) m mP mW mR mB mS mA mK mE mT mD nP nW nR nB mN mO mQ mX np nr ac ke se tl at_ rp rr dp nw (by omega)) rfl rfl rfl rfl (by omega) (by decide) (Nat.le_of_ble_eq_true rfl) (Nat.le_of_ble_eq_true rfl) dX7_hasLanded_17) [0, 2] [1] [1, 0, 2] rfl rfl rfl rfl rfl rfl rfl ?_
          refine rr_if_eqD 35 dX7_hasLanded_20 (by decide) (fun hb => ?_) (fun hb => ?_)
          · skip
            refine rr_iconst dX7_hasLanded_35 ?_
            refine rr_istore_n (lv2 := [(0, .ref m), (1, .int (zz 0)), (2, .int (zz ↑i))]) dX7_hasLanded_36 (by decide) rfl ?_
            refine rr_iinc (lv2 := [(0, .ref m), (1, .int (zz 0)), (2, .int (zz (↑(i + 1))))]) 2 dX7_hasLanded_37 rfl (by decide) rfl ?_
            refine rr_goto 4 dX7_hasLanded_40 (by decide) ?_
            refine RR.eq (lv2 := [(0, .ref m), (1, .int (zz (bI (decide (nw 2 = 0) && anyTo (ovM ro (nw 0) (nw 1)) (i + 1))))), (2, .int (zz (↑(i + 1))))]) rfl (by rw [anyTo]; simp_all [bI]) rfl rfl ?_
            exact ih (i + 1) (by omega)
          · skip
            refine rr_aload_n 0 dX7_hasLanded_23 rfl ?_
            refine rr_iload_n 2 dX7_hasLanded_24 rfl ?_
            refine rr_callFi (ws2 := [(m, ob 7 [.int (zz ↑np), .ref mP, .ref mW, .int (zz ↑nr), .ref mR, .ref mB, .ref mS, .int (zz ↑ac), .ref mA, .int (zz ↑ke), .ref mK, .int (zz ↑se), .ref mE, .ref mT, .int (zz ↑tl), .int (zz ↑at_), .ref mD, .int (zz ↑rp), .ref nP, .ref nW, .int (zz ↑rr), .ref nR, .ref nB, .ref mN, .ref mO, .ref mQ, .int (zz dp), .ref mX]), (mR, aI E 12 ro), (mN, aI E 7 nw)]) (wr := []) (call_V (q0 := 0) kX7_154 (c_isOver E (d + 0) m mP mW mR mB mS mA mK mE mT mD nP nW nR nB mN mO mQ mX np nr ac ke se tl at_ rp rr dp ro nw i hr hw (by omega)) rfl rfl rfl rfl (by omega) (by decide) (Nat.le_of_ble_eq_true rfl) (Nat.le_of_ble_eq_true rfl) dX7_hasLanded_25) [0, 1, 2] [] [0, 1, 2] rfl rfl rfl rfl rfl rfl rfl ?_
            refine rr_if_eqB 35 dX7_hasLanded_28 (by decide) (fun hc => ?_) (fun hc => ?_)
            · skip
              refine rr_iconst dX7_hasLanded_35 ?_
              refine rr_istore_n (lv2 := [(0, .ref m), (1, .int (zz 0)), (2, .int (zz ↑i))]) dX7_hasLanded_36 (by decide) rfl ?_
              refine rr_iinc (lv2 := [(0, .ref m), (1, .int (zz 0)), (2, .int (zz (↑(i + 1))))]) 2 dX7_hasLanded_37 rfl (by decide) rfl ?_
              refine rr_goto 4 dX7_hasLanded_40 (by decide) ?_
              refine RR.eq (lv2 := [(0, .ref m), (1, .int (zz (bI (decide (nw 2 = 0) && anyTo (ovM ro (nw 0) (nw 1)) (i + 1))))), (2, .int (zz (↑(i + 1))))]) rfl (by rw [anyTo]; simp_all [bI]) rfl rfl ?_
              exact ih (i + 1) (by omega)
            · skip
              refine rr_iconst dX7_hasLanded_31 ?_
              refine rr_goto 36 dX7_hasLanded_32 (by decide) ?_
              refine rr_istore_n (lv2 := [(0, .ref m), (1, .int (zz 1)), (2, .int (zz ↑i))]) dX7_hasLanded_36 (by decide) rfl ?_
              refine rr_iinc (lv2 := [(0, .ref m), (1, .int (zz 1)), (2, .int (zz (↑(i + 1))))]) 2 dX7_hasLanded_37 rfl (by decide) rfl ?_
              refine rr_goto 4 dX7_hasLanded_40 (by decide) ?_
              refine RR.eq (lv2 := [(0, .ref m), (1, .int (zz (bI (decide (nw 2 = 0) && anyTo (ovM ro (nw 0) (nw 1)) (i + 1))))), (2, .int (zz (↑(i + 1))))]) rfl (by rw [anyTo]; simp_all [bI]) rfl rfl ?_
              exact ih (i + 1) (by omega)
  refine rr_iconst dX7_hasLanded_0 ?_
  refine rr_istore_n (lv2 := [(0, .ref m), (1, .int (zz 0))]) dX7_hasLanded_1 (by decide) rfl ?_
  refine rr_iconst dX7_hasLanded_2 ?_
  refine rr_istore_n (lv2 := [(0, .ref m), (1, .int (zz 0)), (2, .int (zz 0))]) dX7_hasLanded_3 (by decide) rfl ?_
  refine RR.eq (lv2 := [(0, .ref m), (1, .int (zz (bI (decide (nw 2 = 0) && anyTo (ovM ro (nw 0) (nw 1)) 0)))), (2, .int (zz ↑0))]) rfl (by simp [anyTo, bI]) rfl rfl ?_
  exact lp nr 0 (by omega)
set_option maxRecDepth 100000 in
set_option maxHeartbeats 400000 in
theorem c_place (E : Ev) (d : Nat) (m mP mW mR mB mS mA mK mE mT mD nP nW nR nB mN mO mQ mX : Nat) (np nr ac ke se tl at_ rp rr : Nat) (dp : Int) (nw : Nat → Int) : SP E mX7_place (d + 0) 0 0 [.ref m] [(m, ob 7 [.int (zz ↑np), .ref mP, .ref mW, .int (zz ↑nr), .ref mR, .ref mB, .ref mS, .int (zz ↑ac), .ref mA, .int (zz ↑ke), .ref mK, .int (zz ↑se), .ref mE, .ref mT, .int (zz ↑tl), .int (zz ↑at_), .ref mD, .int (zz ↑rp), .ref nP, .ref nW, .int (zz ↑rr), .ref nR, .ref nB, .ref mN, .ref mO, .ref mQ, .int (zz dp), .ref mX]), (mN, aI E 7 nw)] (FP (some (.int (zz (10 * nw 1 + nw 0)))) [(m, ob 7 [.int (zz ↑np), .ref mP, .ref mW, .int (zz ↑nr), .ref mR, .ref mB, .ref mS, .int (zz ↑ac), .ref mA, .int (zz ↑ke), .ref mK, .int (zz ↑se), .ref mE, .ref mT, .int (zz ↑tl), .int (zz ↑at_), .ref mD, .int (zz ↑rp), .ref nP, .ref nW, .int (zz ↑rr), .ref nR, .ref nB, .ref mN, .ref mO, .ref mQ, .int (zz dp), .ref mX]), (mN, aI E 7 nw)]) := by
  show RR E mX7_place (d + 0) 0 0 0 [(0, .ref m)] [] [(m, ob 7 [.int (zz ↑np), .ref mP, .ref mW, .int (zz ↑nr), .ref mR, .ref mB, .ref mS, .int (zz ↑ac), .ref mA, .int (zz ↑ke), .ref mK, .int (zz ↑se), .ref mE, .ref mT, .int (zz ↑tl), .int (zz ↑at_), .ref mD, .int (zz ↑rp), .ref nP, .ref nW, .int (zz ↑rr), .ref nR, .ref nB, .ref mN, .ref mO, .ref mQ, .int (zz dp), .ref mX]), (mN, aI E 7 nw)] (FP (some (.int (zz (10 * nw 1 + nw 0)))) [(m, ob 7 [.int (zz ↑np), .ref mP, .ref mW, .int (zz ↑nr), .ref mR, .ref mB, .ref mS, .int (zz ↑ac), .ref mA, .int (zz ↑ke), .ref mK, .int (zz ↑se), .ref mE, .ref mT, .int (zz ↑tl), .int (zz ↑at_), .ref mD, .int (zz ↑rp), .ref nP, .ref nW, .int (zz ↑rr), .ref nR, .ref nB, .ref mN, .ref mO, .ref mQ, .int (zz dp), .ref mX]), (mN, aI E 7 nw)])
  refine rr_bipush dX7_place_0 (by decide) ?_
  refine rr_aload_n 0 dX7_place_2 rfl ?_
  refine rr_get fX7_52 0 rfl rfl dX7_place_3 ?_
  refine rr_iconst dX7_place_6 ?_
  refine rr_iald 1 1 rfl rfl (by omega) (by omega) dX7_place_7 ?_
  refine rr_imul dX7_place_8 ?_
  refine rr_aload_n 0 dX7_place_9 rfl ?_
  refine rr_get fX7_52 0 rfl rfl dX7_place_10 ?_
  refine rr_iconst dX7_place_13 ?_
  refine rr_iald 1 0 rfl rfl (by omega) (by omega) dX7_place_14 ?_
  refine rr_iadd dX7_place_15 ?_
  exact rr_iret dX7_place_16 rfl rfl ⟨rfl, rfl⟩
set_option maxRecDepth 100000 in
set_option maxHeartbeats 400000 in
theorem c_MliftOf (E : Ev) (d : Nat) (m mP mW mR mB mS mA mK mE mT mD nP nW nR nB mN mO mQ mX : Nat) (np nr ac ke se tl at_ rp rr : Nat) (dp : Int) (pg wn nw : Nat → Int) (i : Nat) (hp : pgOK np pg wn) (hw : mOK np nw) (hi : i < np) : SP E mX7_liftOf (d + 1) 0 0 [.ref m, .int (zz ↑i)] [(m, ob 7 [.int (zz ↑np), .ref mP, .ref mW, .int (zz ↑nr), .ref mR, .ref mB, .ref mS, .int (zz ↑ac), .ref mA, .int (zz ↑ke), .ref mK, .int (zz ↑se), .ref mE, .ref mT, .int (zz ↑tl), .int (zz ↑at_), .ref mD, .int (zz ↑rp), .ref nP, .ref nW, .int (zz ↑rr), .ref nR, .ref nB, .ref mN, .ref mO, .ref mQ, .int (zz dp), .ref mX]), (mP, aI E 21 pg), (mN, aI E 7 nw)] (FP (some (.int (zz (liftF (pg (3 * i)) (pg (3 * i + 1)) (nw 3) (dbM pg (nw 6)) (nw 5))))) [(m, ob 7 [.int (zz ↑np), .ref mP, .ref mW, .int (zz ↑nr), .ref mR, .ref mB, .ref mS, .int (zz ↑ac), .ref mA, .int (zz ↑ke), .ref mK, .int (zz ↑se), .ref mE, .ref mT, .int (zz ↑tl), .int (zz ↑at_), .ref mD, .int (zz ↑rp), .ref nP, .ref nW, .int (zz ↑rr), .ref nR, .ref nB, .ref mN, .ref mO, .ref mQ, .int (zz dp), .ref mX]), (mP, aI E 21 pg), (mN, aI E 7 nw)]) := by
  show RR E mX7_liftOf (d + 1) 0 0 0 [(0, .ref m), (1, .int (zz ↑i))] [] [(m, ob 7 [.int (zz ↑np), .ref mP, .ref mW, .int (zz ↑nr), .ref mR, .ref mB, .ref mS, .int (zz ↑ac), .ref mA, .int (zz ↑ke), .ref mK, .int (zz ↑se), .ref mE, .ref mT, .int (zz ↑tl), .int (zz ↑at_), .ref mD, .int (zz ↑rp), .ref nP, .ref nW, .int (zz ↑rr), .ref nR, .ref nB, .ref mN, .ref mO, .ref mQ, .int (zz dp), .ref mX]), (mP, aI E 21 pg), (mN, aI E 7 nw)] (FP (some (.int (zz (liftF (pg (3 * i)) (pg (3 * i + 1)) (nw 3) (dbM pg (nw 6)) (nw 5))))) [(m, ob 7 [.int (zz ↑np), .ref mP, .ref mW, .int (zz ↑nr), .ref mR, .ref mB, .ref mS, .int (zz ↑ac), .ref mA, .int (zz ↑ke), .ref mK, .int (zz ↑se), .ref mE, .ref mT, .int (zz ↑tl), .int (zz ↑at_), .ref mD, .int (zz ↑rp), .ref nP, .ref nW, .int (zz ↑rr), .ref nR, .ref nB, .ref mN, .ref mO, .ref mQ, .int (zz dp), .ref mX]), (mP, aI E 21 pg), (mN, aI E 7 nw)])
  obtain ⟨n0, n1, n2, n3, n5, n6⟩ := id hw
  have hn := hp.1
  obtain ⟨k0, u0, t0⟩ := hp.2.1 i hi
  have jd : RR E mX7_liftOf (d + 1) 0 0 33 [(0, .ref m), (1, .int (zz ↑i))] [.int (zz (bI (dbM pg (nw 6))))] [(m, ob 7 [.int (zz ↑np), .ref mP, .ref mW, .int (zz ↑nr), .ref mR, .ref mB, .ref mS, .int (zz ↑ac), .ref mA, .int (zz ↑ke), .ref mK, .int (zz ↑se), .ref mE, .ref mT, .int (zz ↑tl), .int (zz ↑at_), .ref mD, .int (zz ↑rp), .ref nP, .ref nW, .int (zz ↑rr), .ref nR, .ref nB, .ref mN, .ref mO, .ref mQ, .int (zz dp), .ref mX]), (mP, aI E 21 pg), (mN, aI E 7 nw)] (FP (some (.int (zz (liftF (pg (3 * i)) (pg (3 * i + 1)) (nw 3) (dbM pg (nw 6)) (nw 5))))) [(m, ob 7 [.int (zz ↑np), .ref mP, .ref mW, .int (zz ↑nr), .ref mR, .ref mB, .ref mS, .int (zz ↑ac), .ref mA, .int (zz ↑ke), .ref mK, .int (zz ↑se), .ref mE, .ref mT, .int (zz ↑tl), .int (zz ↑at_), .ref mD, .int (zz ↑rp), .ref nP, .ref nW, .int (zz ↑rr), .ref nR, .ref nB, .ref mN, .ref mO, .ref mQ, .int (zz dp), .ref mX]), (mP, aI E 21 pg), (mN, aI E 7 nw)]) := by
    refine rr_istore_n (lv2 := [(0, .ref m), (1, .int (zz ↑i)), (2, .int (zz (bI (dbM pg (nw 6)))))]) dX7_liftOf_33 (by decide) rfl ?_
    refine rr_aload_n 0 dX7_liftOf_34 rfl ?_
    refine rr_get fX7_7 0 rfl rfl dX7_liftOf_35 ?_
    refine rr_iconst dX7_liftOf_38 ?_
    refine rr_iload_n 1 dX7_liftOf_39 rfl ?_
    refine rr_imul dX7_liftOf_40 ?_
    refine rr_iald 1 (3 * i) rfl (by omega) (by omega) (by omega) dX7_liftOf_41 ?_
    refine rr_aload_n 0 dX7_liftOf_42 rfl ?_
    refine rr_get fX7_7 0 rfl rfl dX7_liftOf_43 ?_
    refine rr_iconst dX7_liftOf_46 ?_
    refine rr_iload_n 1 dX7_liftOf_47 rfl ?_
    refine rr_imul dX7_liftOf_48 ?_
    refine rr_iconst dX7_liftOf_49 ?_
    refine rr_iadd dX7_liftOf_50 ?_
    refine rr_iald 1 ((3 * i) + 1) rfl (by omega) (by omega) (by omega) dX7_liftOf_51 ?_
    refine rr_aload_n 0 dX7_liftOf_52 rfl ?_
    refine rr_get fX7_52 0 rfl rfl dX7_liftOf_53 ?_
    refine rr_iconst dX7_liftOf_56 ?_
    refine rr_iald 2 3 rfl rfl (by omega) (by omega) dX7_liftOf_57 ?_
    refine rr_iload_n 2 dX7_liftOf_58 rfl ?_
    refine rr_aload_n 0 dX7_liftOf_59 rfl ?_
    refine rr_get fX7_52 0 rfl rfl dX7_liftOf_60 ?_
    refine rr_iconst dX7_liftOf_63 ?_
    refine rr_iald 2 5 rfl rfl (by omega) (by omega) dX7_liftOf_64 ?_
    refine rr_callFi (ws2 := [(m, ob 7 [.int (zz ↑np), .ref mP, .ref mW, .int (zz ↑nr), .ref mR, .ref mB, .ref mS, .int (zz ↑ac), .ref mA, .int (zz ↑ke), .ref mK, .int (zz ↑se), .ref mE, .ref mT, .int (zz ↑tl), .int (zz ↑at_), .ref mD, .int (zz ↑rp), .ref nP, .ref nW, .int (zz ↑rr), .ref nR, .ref nB, .ref mN, .ref mO, .ref mQ, .int (zz dp), .ref mX]), (mP, aI E 21 pg), (mN, aI E 7 nw)]) (wr := [(m, ob 7 [.int (zz ↑np), .ref mP, .ref mW, .int (zz ↑nr), .ref mR, .ref mB, .ref mS, .int (zz ↑ac), .ref mA, .int (zz ↑ke), .ref mK, .int (zz ↑se), .ref mE, .ref mT, .int (zz ↑tl), .int (zz ↑at_), .ref mD, .int (zz ↑rp), .ref nP, .ref nW, .int (zz ↑rr), .ref nR, .ref nB, .ref mN, .ref mO, .ref mQ, .int (zz dp), .ref mX]), (mP, aI E 21 pg), (mN, aI E 7 nw)]) (call_S kX7_157 (c_lifts E (d + 0) (pg (3 * i)) (pg ((3 * i) + 1)) (nw 3) (nw 5) (dbM pg (nw 6)) (by omega) (by omega) (by omega) (by omega)) rfl (by omega) (by decide) (Nat.le_of_ble_eq_true rfl) (Nat.le_of_ble_eq_true rfl) dX7_liftOf_65) [] [0, 1, 2] [0, 1, 2] rfl rfl rfl rfl rfl rfl rfl ?_
    exact rr_iret dX7_liftOf_68 rfl rfl ⟨rfl, rfl⟩
  refine rr_aload_n 0 dX7_liftOf_0 rfl ?_
  refine rr_get fX7_52 0 rfl rfl dX7_liftOf_1 ?_
  refine rr_bipush dX7_liftOf_4 (by decide) ?_
  refine rr_iald 2 6 rfl rfl (by omega) (by omega) dX7_liftOf_6 ?_
  refine rr_if_lt 32 dX7_liftOf_7 (by decide) (by omega) (fun c_1 => ?_) (fun c_1 => ?_)
  · skip
    refine rr_iconst dX7_liftOf_32 ?_
    exact rr_top (by unfold dbM bI; simp_all <;> omega) jd
  · skip
    refine rr_aload_n 0 dX7_liftOf_10 rfl ?_
    refine rr_get fX7_7 0 rfl rfl dX7_liftOf_11 ?_
    refine rr_iconst dX7_liftOf_14 ?_
    refine rr_aload_n 0 dX7_liftOf_15 rfl ?_
    refine rr_get fX7_52 0 rfl rfl dX7_liftOf_16 ?_
    refine rr_bipush dX7_liftOf_19 (by decide) ?_
    refine rr_iald 2 6 rfl rfl (by omega) (by omega) dX7_liftOf_21 ?_
    refine rr_imul dX7_liftOf_22 ?_
    refine rr_iald 1 (3 * (nw 6).toNat) rfl (by omega) (by omega) (by omega) dX7_liftOf_23 ?_
    refine rr_iconst dX7_liftOf_24 ?_
    refine rr_icmp_ne 32 dX7_liftOf_25 (by decide) (by have := (hp.2.1 (nw 6).toNat (by omega)).1; omega) (by have := (hp.2.1 (nw 6).toNat (by omega)).1; omega) (fun c_2 => ?_) (fun c_2 => ?_)
    · skip
      refine rr_iconst dX7_liftOf_32 ?_
      exact rr_top (by unfold dbM bI; simp_all <;> omega) jd
    · skip
      refine rr_iconst dX7_liftOf_28 ?_
      refine rr_goto 33 dX7_liftOf_29 (by decide) ?_
      exact rr_top (by unfold dbM bI; simp_all <;> omega) jd
set_option maxRecDepth 100000 in
set_option maxHeartbeats 400000 in
theorem c_MquartersOf (E : Ev) (d : Nat) (m mP mW mR mB mS mA mK mE mT mD nP nW nR nB mN mO mQ mX : Nat) (np nr ac ke se tl at_ rp rr : Nat) (dp : Int) (pg wn nw : Nat → Int) (i : Nat) (hp : pgOK np pg wn) (hw : mOK np nw) (hi : i < np) : SP E mX7_quartersOf (d + 0) 0 0 [.ref m, .int (zz ↑i)] [(m, ob 7 [.int (zz ↑np), .ref mP, .ref mW, .int (zz ↑nr), .ref mR, .ref mB, .ref mS, .int (zz ↑ac), .ref mA, .int (zz ↑ke), .ref mK, .int (zz ↑se), .ref mE, .ref mT, .int (zz ↑tl), .int (zz ↑at_), .ref mD, .int (zz ↑rp), .ref nP, .ref nW, .int (zz ↑rr), .ref nR, .ref nB, .ref mN, .ref mO, .ref mQ, .int (zz dp), .ref mX]), (mP, aI E 21 pg), (mN, aI E 7 nw)] (FP (some (.int (zz (quM (pg (3 * i)) (pg (3 * i + 2)) (nw 3))))) [(m, ob 7 [.int (zz ↑np), .ref mP, .ref mW, .int (zz ↑nr), .ref mR, .ref mB, .ref mS, .int (zz ↑ac), .ref mA, .int (zz ↑ke), .ref mK, .int (zz ↑se), .ref mE, .ref mT, .int (zz ↑tl), .int (zz ↑at_), .ref mD, .int (zz ↑rp), .ref nP, .ref nW, .int (zz ↑rr), .ref nR, .ref nB, .ref mN, .ref mO, .ref mQ, .int (zz dp), .ref mX]), (mP, aI E 21 pg), (mN, aI E 7 nw)]) := by
  show RR E mX7_quartersOf (d + 0) 0 0 0 [(0, .ref m), (1, .int (zz ↑i))] [] [(m, ob 7 [.int (zz ↑np), .ref mP, .ref mW, .int (zz ↑nr), .ref mR, .ref mB, .ref mS, .int (zz ↑ac), .ref mA, .int (zz ↑ke), .ref mK, .int (zz ↑se), .ref mE, .ref mT, .int (zz ↑tl), .int (zz ↑at_), .ref mD, .int (zz ↑rp), .ref nP, .ref nW, .int (zz ↑rr), .ref nR, .ref nB, .ref mN, .ref mO, .ref mQ, .int (zz dp), .ref mX]), (mP, aI E 21 pg), (mN, aI E 7 nw)] (FP (some (.int (zz (quM (pg (3 * i)) (pg (3 * i + 2)) (nw 3))))) [(m, ob 7 [.int (zz ↑np), .ref mP, .ref mW, .int (zz ↑nr), .ref mR, .ref mB, .ref mS, .int (zz ↑ac), .ref mA, .int (zz ↑ke), .ref mK, .int (zz ↑se), .ref mE, .ref mT, .int (zz ↑tl), .int (zz ↑at_), .ref mD, .int (zz ↑rp), .ref nP, .ref nW, .int (zz ↑rr), .ref nR, .ref nB, .ref mN, .ref mO, .ref mQ, .int (zz dp), .ref mX]), (mP, aI E 21 pg), (mN, aI E 7 nw)])
  obtain ⟨n0, n1, n2, n3, n5, n6⟩ := id hw
  have hn := hp.1
  obtain ⟨k0, u0, t0⟩ := hp.2.1 i hi
  refine rr_aload_n 0 dX7_quartersOf_0 rfl ?_
  refine rr_get fX7_7 0 rfl rfl dX7_quartersOf_1 ?_
  refine rr_iconst dX7_quartersOf_4 ?_
  refine rr_iload_n 1 dX7_quartersOf_5 rfl ?_
  refine rr_imul dX7_quartersOf_6 ?_
  refine rr_iald 1 (3 * i) rfl (by omega) (by omega) (by omega) dX7_quartersOf_7 ?_
  refine rr_iconst dX7_quartersOf_8 ?_
  refine rr_icmp_ne 26 dX7_quartersOf_9 (by decide) (by omega) (by omega) (fun c_1 => ?_) (fun c_1 => ?_)
  · skip
    refine rr_iconst dX7_quartersOf_26 ?_
    refine rr_istore_n (lv2 := [(0, .ref m), (1, .int (zz ↑i)), (2, .int (zz 0))]) dX7_quartersOf_27 (by decide) rfl ?_
    refine rr_iload_n 2 dX7_quartersOf_28 rfl ?_
    refine rr_if_eq 49 dX7_quartersOf_29 (by decide) (by omega) (fun c_2 => ?_) (fun c_2 => ?_)
    · skip
      refine rr_aload_n 0 dX7_quartersOf_49 rfl ?_
      refine rr_get fX7_7 0 rfl rfl dX7_quartersOf_50 ?_
      refine rr_iconst dX7_quartersOf_53 ?_
      refine rr_iload_n 1 dX7_quartersOf_54 rfl ?_
      refine rr_imul dX7_quartersOf_55 ?_
      refine rr_iconst dX7_quartersOf_56 ?_
      refine rr_iadd dX7_quartersOf_57 ?_
      refine rr_iald 1 ((3 * i) + 2) rfl (by omega) (by omega) (by omega) dX7_quartersOf_58 ?_
      exact rr_iret dX7_quartersOf_59 rfl rfl ⟨congrArg (fun z => some (Value.int (zz z))) (by unfold quM; simp_all <;> omega), rfl⟩
    · skip
      exfalso; omega
  · skip
    refine rr_aload_n 0 dX7_quartersOf_12 rfl ?_
    refine rr_get fX7_52 0 rfl rfl dX7_quartersOf_13 ?_
    refine rr_iconst dX7_quartersOf_16 ?_
    refine rr_iald 2 3 rfl rfl (by omega) (by omega) dX7_quartersOf_17 ?_
    refine rr_iconst dX7_quartersOf_18 ?_
    refine rr_icmp_le 26 dX7_quartersOf_19 (by decide) (by omega) (by omega) (fun c_3 => ?_) (fun c_3 => ?_)
    · skip
      refine rr_iconst dX7_quartersOf_26 ?_
      refine rr_istore_n (lv2 := [(0, .ref m), (1, .int (zz ↑i)), (2, .int (zz 0))]) dX7_quartersOf_27 (by decide) rfl ?_
      refine rr_iload_n 2 dX7_quartersOf_28 rfl ?_
      refine rr_if_eq 49 dX7_quartersOf_29 (by decide) (by omega) (fun c_4 => ?_) (fun c_4 => ?_)
      · skip
        refine rr_aload_n 0 dX7_quartersOf_49 rfl ?_
        refine rr_get fX7_7 0 rfl rfl dX7_quartersOf_50 ?_
        refine rr_iconst dX7_quartersOf_53 ?_
        refine rr_iload_n 1 dX7_quartersOf_54 rfl ?_
        refine rr_imul dX7_quartersOf_55 ?_
        refine rr_iconst dX7_quartersOf_56 ?_
        refine rr_iadd dX7_quartersOf_57 ?_
        refine rr_iald 1 ((3 * i) + 2) rfl (by omega) (by omega) (by omega) dX7_quartersOf_58 ?_
        exact rr_iret dX7_quartersOf_59 rfl rfl ⟨congrArg (fun z => some (Value.int (zz z))) (by unfold quM; simp_all <;> omega), rfl⟩
      · skip
        exfalso; omega
    · skip
      refine rr_iconst dX7_quartersOf_22 ?_
      refine rr_goto 27 dX7_quartersOf_23 (by decide) ?_
      refine rr_istore_n (lv2 := [(0, .ref m), (1, .int (zz ↑i)), (2, .int (zz 1))]) dX7_quartersOf_27 (by decide) rfl ?_
      refine rr_iload_n 2 dX7_quartersOf_28 rfl ?_
      refine rr_if_eq 49 dX7_quartersOf_29 (by decide) (by omega) (fun c_5 => ?_) (fun c_5 => ?_)
      · skip
        exfalso; omega
      · skip
        refine rr_iconst dX7_quartersOf_32 ?_
        refine rr_aload_n 0 dX7_quartersOf_33 rfl ?_
        refine rr_get fX7_7 0 rfl rfl dX7_quartersOf_34 ?_
        refine rr_iconst dX7_quartersOf_37 ?_
        refine rr_iload_n 1 dX7_quartersOf_38 rfl ?_
        refine rr_imul dX7_quartersOf_39 ?_
        refine rr_iconst dX7_quartersOf_40 ?_
        refine rr_iadd dX7_quartersOf_41 ?_
        refine rr_iald 1 ((3 * i) + 2) rfl (by omega) (by omega) (by omega) dX7_quartersOf_42 ?_
        refine rr_isub dX7_quartersOf_43 ?_
        refine rr_iconst dX7_quartersOf_44 ?_
        refine rr_irem dX7_quartersOf_45 (by omega) (by omega) ?_
        refine rr_goto 59 dX7_quartersOf_46 (by decide) ?_
        exact rr_iret dX7_quartersOf_59 rfl rfl ⟨congrArg (fun z => some (Value.int (zz z))) (by unfold quM; simp_all <;> omega), rfl⟩
set_option maxRecDepth 100000 in
set_option maxHeartbeats 400000 in
theorem c_goesTo (E : Ev) (d : Nat) (m mP mW mR mB mS mA mK mE mT mD nP nW nR nB mN mO mQ mX : Nat) (np nr ac ke se tl at_ rp rr : Nat) (dp : Int) (nw : Nat → Int) (dir : Int) (hd : 0 ≤ dir ∧ dir ≤ 4) (h0 : 0 ≤ nw 0 ∧ nw 0 ≤ 9) (h1 : 0 ≤ nw 1 ∧ nw 1 ≤ 9) : SP E mX7_goesTo (d + 1) 0 0 [.ref m, .int (zz dir)] [(m, ob 7 [.int (zz ↑np), .ref mP, .ref mW, .int (zz ↑nr), .ref mR, .ref mB, .ref mS, .int (zz ↑ac), .ref mA, .int (zz ↑ke), .ref mK, .int (zz ↑se), .ref mE, .ref mT, .int (zz ↑tl), .int (zz ↑at_), .ref mD, .int (zz ↑rp), .ref nP, .ref nW, .int (zz ↑rr), .ref nR, .ref nB, .ref mN, .ref mO, .ref mQ, .int (zz dp), .ref mX]), (mN, aI E 7 nw)] (FP none [(m, ob 7 [.int (zz ↑np), .ref mP, .ref mW, .int (zz ↑nr), .ref mR, .ref mB, .ref mS, .int (zz ↑ac), .ref mA, .int (zz ↑ke), .ref mK, .int (zz ↑se), .ref mE, .ref mT, .int (zz ↑tl), .int (zz ↑at_), .ref mD, .int (zz ↑rp), .ref nP, .ref nW, .int (zz ↑rr), .ref nR, .ref nB, .ref mN, .ref mO, .ref mQ, .int (zz dp), .ref mX]), (mN, aI E 7 (stp nw dir))]) := by
  show RR E mX7_goesTo (d + 1) 0 0 0 [(0, .ref m), (1, .int (zz dir))] [] [(m, ob 7 [.int (zz ↑np), .ref mP, .ref mW, .int (zz ↑nr), .ref mR, .ref mB, .ref mS, .int (zz ↑ac), .ref mA, .int (zz ↑ke), .ref mK, .int (zz ↑se), .ref mE, .ref mT, .int (zz ↑tl), .int (zz ↑at_), .ref mD, .int (zz ↑rp), .ref nP, .ref nW, .int (zz ↑rr), .ref nR, .ref nB, .ref mN, .ref mO, .ref mQ, .int (zz dp), .ref mX]), (mN, aI E 7 nw)] (FP none [(m, ob 7 [.int (zz ↑np), .ref mP, .ref mW, .int (zz ↑nr), .ref mR, .ref mB, .ref mS, .int (zz ↑ac), .ref mA, .int (zz ↑ke), .ref mK, .int (zz ↑se), .ref mE, .ref mT, .int (zz ↑tl), .int (zz ↑at_), .ref mD, .int (zz ↑rp), .ref nP, .ref nW, .int (zz ↑rr), .ref nR, .ref nB, .ref mN, .ref mO, .ref mQ, .int (zz dp), .ref mX]), (mN, aI E 7 (stp nw dir))])
  have he := eastw_rg dir
  have hs := southw_rg dir
  refine rr_aload_n 0 dX7_goesTo_0 rfl ?_
  refine rr_get fX7_52 0 rfl rfl dX7_goesTo_1 ?_
  refine rr_iconst dX7_goesTo_4 ?_
  refine rr_aload_n 0 dX7_goesTo_5 rfl ?_
  refine rr_get fX7_52 0 rfl rfl dX7_goesTo_6 ?_
  refine rr_iconst dX7_goesTo_9 ?_
  refine rr_iald 1 0 rfl rfl (by omega) (by omega) dX7_goesTo_10 ?_
  have j1 : RR E mX7_goesTo (d + 1) 0 0 30 [(0, .ref m), (1, .int (zz dir))] [.int (zz (eastw dir)), .int (zz (nw 0)), .int (zz 0), .ref mN] [(m, ob 7 [.int (zz ↑np), .ref mP, .ref mW, .int (zz ↑nr), .ref mR, .ref mB, .ref mS, .int (zz ↑ac), .ref mA, .int (zz ↑ke), .ref mK, .int (zz ↑se), .ref mE, .ref mT, .int (zz ↑tl), .int (zz ↑at_), .ref mD, .int (zz ↑rp), .ref nP, .ref nW, .int (zz ↑rr), .ref nR, .ref nB, .ref mN, .ref mO, .ref mQ, .int (zz dp), .ref mX]), (mN, aI E 7 nw)] (FP none [(m, ob 7 [.int (zz ↑np), .ref mP, .ref mW, .int (zz ↑nr), .ref mR, .ref mB, .ref mS, .int (zz ↑ac), .ref mA, .int (zz ↑ke), .ref mK, .int (zz ↑se), .ref mE, .ref mT, .int (zz ↑tl), .int (zz ↑at_), .ref mD, .int (zz ↑rp), .ref nP, .ref nW, .int (zz ↑rr), .ref nR, .ref nB, .ref mN, .ref mO, .ref mQ, .int (zz dp), .ref mX]), (mN, aI E 7 (stp nw dir))]) := by
    refine rr_iadd dX7_goesTo_30 ?_
    refine rr_callFi (ws2 := [(m, ob 7 [.int (zz ↑np), .ref mP, .ref mW, .int (zz ↑nr), .ref mR, .ref mB, .ref mS, .int (zz ↑ac), .ref mA, .int (zz ↑ke), .ref mK, .int (zz ↑se), .ref mE, .ref mT, .int (zz ↑tl), .int (zz ↑at_), .ref mD, .int (zz ↑rp), .ref nP, .ref nW, .int (zz ↑rr), .ref nR, .ref nB, .ref mN, .ref mO, .ref mQ, .int (zz dp), .ref mX]), (mN, aI E 7 nw)]) (wr := [(m, ob 7 [.int (zz ↑np), .ref mP, .ref mW, .int (zz ↑nr), .ref mR, .ref mB, .ref mS, .int (zz ↑ac), .ref mA, .int (zz ↑ke), .ref mK, .int (zz ↑se), .ref mE, .ref mT, .int (zz ↑tl), .int (zz ↑at_), .ref mD, .int (zz ↑rp), .ref nP, .ref nW, .int (zz ↑rr), .ref nR, .ref nB, .ref mN, .ref mO, .ref mQ, .int (zz dp), .ref mX]), (mN, aI E 7 nw)]) (call_S kX7_161 (c_bounded E (d + 0) ((nw 0) + (eastw dir)) (by omega)) rfl (by omega) (by decide) (Nat.le_of_ble_eq_true rfl) (Nat.le_of_ble_eq_true rfl) dX7_goesTo_31) [] [0, 1] [0, 1] rfl rfl rfl rfl rfl rfl rfl ?_
    refine rr_iast (ws2 := [(m, ob 7 [.int (zz ↑np), .ref mP, .ref mW, .int (zz ↑nr), .ref mR, .ref mB, .ref mS, .int (zz ↑ac), .ref mA, .int (zz ↑ke), .ref mK, .int (zz ↑se), .ref mE, .ref mT, .int (zz ↑tl), .int (zz ↑at_), .ref mD, .int (zz ↑rp), .ref nP, .ref nW, .int (zz ↑rr), .ref nR, .ref nB, .ref mN, .ref mO, .ref mQ, .int (zz dp), .ref mX]), (mN, aI E 7 (updI nw 0 (clampI ((nw 0) + (eastw dir)) 9)))]) 1 0 rfl rfl (by omega) (by omega) rfl dX7_goesTo_34 ?_
    refine rr_aload_n 0 dX7_goesTo_35 rfl ?_
    refine rr_get fX7_52 0 rfl rfl dX7_goesTo_36 ?_
    refine rr_iconst dX7_goesTo_39 ?_
    refine rr_aload_n 0 dX7_goesTo_40 rfl ?_
    refine rr_get fX7_52 0 rfl rfl dX7_goesTo_41 ?_
    refine rr_iconst dX7_goesTo_44 ?_
    refine rr_iald 1 1 rfl rfl (by omega) (by omega) dX7_goesTo_45 ?_
    have j2 : RR E mX7_goesTo (d + 1) 0 0 64 [(0, .ref m), (1, .int (zz dir))] [.int (zz (southw dir)), .int (zz (nw 1)), .int (zz 1), .ref mN] [(m, ob 7 [.int (zz ↑np), .ref mP, .ref mW, .int (zz ↑nr), .ref mR, .ref mB, .ref mS, .int (zz ↑ac), .ref mA, .int (zz ↑ke), .ref mK, .int (zz ↑se), .ref mE, .ref mT, .int (zz ↑tl), .int (zz ↑at_), .ref mD, .int (zz ↑rp), .ref nP, .ref nW, .int (zz ↑rr), .ref nR, .ref nB, .ref mN, .ref mO, .ref mQ, .int (zz dp), .ref mX]), (mN, aI E 7 (updI nw 0 (clampI ((nw 0) + (eastw dir)) 9)))] (FP none [(m, ob 7 [.int (zz ↑np), .ref mP, .ref mW, .int (zz ↑nr), .ref mR, .ref mB, .ref mS, .int (zz ↑ac), .ref mA, .int (zz ↑ke), .ref mK, .int (zz ↑se), .ref mE, .ref mT, .int (zz ↑tl), .int (zz ↑at_), .ref mD, .int (zz ↑rp), .ref nP, .ref nW, .int (zz ↑rr), .ref nR, .ref nB, .ref mN, .ref mO, .ref mQ, .int (zz dp), .ref mX]), (mN, aI E 7 (stp nw dir))]) := by
      refine rr_iadd dX7_goesTo_64 ?_
      refine rr_callFi (ws2 := [(m, ob 7 [.int (zz ↑np), .ref mP, .ref mW, .int (zz ↑nr), .ref mR, .ref mB, .ref mS, .int (zz ↑ac), .ref mA, .int (zz ↑ke), .ref mK, .int (zz ↑se), .ref mE, .ref mT, .int (zz ↑tl), .int (zz ↑at_), .ref mD, .int (zz ↑rp), .ref nP, .ref nW, .int (zz ↑rr), .ref nR, .ref nB, .ref mN, .ref mO, .ref mQ, .int (zz dp), .ref mX]), (mN, aI E 7 (updI nw 0 (clampI ((nw 0) + (eastw dir)) 9)))]) (wr := [(m, ob 7 [.int (zz ↑np), .ref mP, .ref mW, .int (zz ↑nr), .ref mR, .ref mB, .ref mS, .int (zz ↑ac), .ref mA, .int (zz ↑ke), .ref mK, .int (zz ↑se), .ref mE, .ref mT, .int (zz ↑tl), .int (zz ↑at_), .ref mD, .int (zz ↑rp), .ref nP, .ref nW, .int (zz ↑rr), .ref nR, .ref nB, .ref mN, .ref mO, .ref mQ, .int (zz dp), .ref mX]), (mN, aI E 7 (updI nw 0 (clampI ((nw 0) + (eastw dir)) 9)))]) (call_S kX7_161 (c_bounded E (d + 0) ((nw 1) + (southw dir)) (by omega)) rfl (by omega) (by decide) (Nat.le_of_ble_eq_true rfl) (Nat.le_of_ble_eq_true rfl) dX7_goesTo_65) [] [0, 1] [0, 1] rfl rfl rfl rfl rfl rfl rfl ?_
      refine rr_iast (ws2 := [(m, ob 7 [.int (zz ↑np), .ref mP, .ref mW, .int (zz ↑nr), .ref mR, .ref mB, .ref mS, .int (zz ↑ac), .ref mA, .int (zz ↑ke), .ref mK, .int (zz ↑se), .ref mE, .ref mT, .int (zz ↑tl), .int (zz ↑at_), .ref mD, .int (zz ↑rp), .ref nP, .ref nW, .int (zz ↑rr), .ref nR, .ref nB, .ref mN, .ref mO, .ref mQ, .int (zz dp), .ref mX]), (mN, aI E 7 (updI (updI nw 0 (clampI ((nw 0) + (eastw dir)) 9)) 1 (clampI ((nw 1) + (southw dir)) 9)))]) 1 1 rfl rfl (by omega) (by omega) rfl dX7_goesTo_68 ?_
      exact rr_ret dX7_goesTo_69 rfl ⟨rfl, rfl⟩
    refine rr_iload_n 1 dX7_goesTo_46 rfl ?_
    refine rr_iconst dX7_goesTo_47 ?_
    refine rr_icmp_ne 55 dX7_goesTo_48 (by decide) (by omega) (by omega) (fun c_1 => ?_) (fun c_1 => ?_)
    · skip
      refine rr_iload_n 1 dX7_goesTo_55 rfl ?_
      refine rr_if_ne 63 dX7_goesTo_56 (by decide) (by omega) (fun c_2 => ?_) (fun c_2 => ?_)
      · skip
        refine rr_iconst dX7_goesTo_63 ?_
        exact rr_top (by unfold southw; simp_all <;> omega) j2
      · skip
        refine rr_iconst dX7_goesTo_59 ?_
        refine rr_goto 64 dX7_goesTo_60 (by decide) ?_
        exact rr_top (by unfold southw; simp_all <;> omega) j2
    · skip
      refine rr_iconst dX7_goesTo_51 ?_
      refine rr_goto 64 dX7_goesTo_52 (by decide) ?_
      exact rr_top (by unfold southw; simp_all <;> omega) j2
  refine rr_iload_n 1 dX7_goesTo_11 rfl ?_
  refine rr_iconst dX7_goesTo_12 ?_
  refine rr_icmp_ne 20 dX7_goesTo_13 (by decide) (by omega) (by omega) (fun c_3 => ?_) (fun c_3 => ?_)
  · skip
    refine rr_iload_n 1 dX7_goesTo_20 rfl ?_
    refine rr_iconst dX7_goesTo_21 ?_
    refine rr_icmp_ne 29 dX7_goesTo_22 (by decide) (by omega) (by omega) (fun c_4 => ?_) (fun c_4 => ?_)
    · skip
      refine rr_iconst dX7_goesTo_29 ?_
      exact rr_top (by unfold eastw; simp_all <;> omega) j1
    · skip
      refine rr_iconst dX7_goesTo_25 ?_
      refine rr_goto 30 dX7_goesTo_26 (by decide) ?_
      exact rr_top (by unfold eastw; simp_all <;> omega) j1
  · skip
    refine rr_iconst dX7_goesTo_16 ?_
    refine rr_goto 30 dX7_goesTo_17 (by decide) ?_
    exact rr_top (by unfold eastw; simp_all <;> omega) j1
set_option maxRecDepth 100000 in
set_option maxHeartbeats 400000 in
theorem c_flies (E : Ev) (d : Nat) (m mP mW mR mB mS mA mK mE mT mD nP nW nR nB mN mO mQ mX : Nat) (np nr ac ke se tl at_ rp rr : Nat) (dp : Int) (pg wn nw : Nat → Int) (hp : pgOK np pg wn) (hw : mOK np nw) : SP E mX7_flies (d + 2) 0 0 [.ref m] [(m, ob 7 [.int (zz ↑np), .ref mP, .ref mW, .int (zz ↑nr), .ref mR, .ref mB, .ref mS, .int (zz ↑ac), .ref mA, .int (zz ↑ke), .ref mK, .int (zz ↑se), .ref mE, .ref mT, .int (zz ↑tl), .int (zz ↑at_), .ref mD, .int (zz ↑rp), .ref nP, .ref nW, .int (zz ↑rr), .ref nR, .ref nB, .ref mN, .ref mO, .ref mQ, .int (zz dp), .ref mX]), (mW, aI E 10 wn), (mN, aI E 7 nw)] (FP none [(m, ob 7 [.int (zz ↑np), .ref mP, .ref mW, .int (zz ↑nr), .ref mR, .ref mB, .ref mS, .int (zz ↑ac), .ref mA, .int (zz ↑ke), .ref mK, .int (zz ↑se), .ref mE, .ref mT, .int (zz ↑tl), .int (zz ↑at_), .ref mD, .int (zz ↑rp), .ref nP, .ref nW, .int (zz ↑rr), .ref nR, .ref nB, .ref mN, .ref mO, .ref mQ, .int (zz dp), .ref mX]), (mW, aI E 10 wn), (mN, aI E 7 (flF wn nw))]) := by
  show RR E mX7_flies (d + 2) 0 0 0 [(0, .ref m)] [] [(m, ob 7 [.int (zz ↑np), .ref mP, .ref mW, .int (zz ↑nr), .ref mR, .ref mB, .ref mS, .int (zz ↑ac), .ref mA, .int (zz ↑ke), .ref mK, .int (zz ↑se), .ref mE, .ref mT, .int (zz ↑tl), .int (zz ↑at_), .ref mD, .int (zz ↑rp), .ref nP, .ref nW, .int (zz ↑rr), .ref nR, .ref nB, .ref mN, .ref mO, .ref mQ, .int (zz dp), .ref mX]), (mW, aI E 10 wn), (mN, aI E 7 nw)] (FP none [(m, ob 7 [.int (zz ↑np), .ref mP, .ref mW, .int (zz ↑nr), .ref mR, .ref mB, .ref mS, .int (zz ↑ac), .ref mA, .int (zz ↑ke), .ref mK, .int (zz ↑se), .ref mE, .ref mT, .int (zz ↑tl), .int (zz ↑at_), .ref mD, .int (zz ↑rp), .ref nP, .ref nW, .int (zz ↑rr), .ref nR, .ref nB, .ref mN, .ref mO, .ref mQ, .int (zz dp), .ref mX]), (mW, aI E 10 wn), (mN, aI E 7 (flF wn nw))])
  obtain ⟨n0, n1, n2, n3, n5, n6⟩ := id hw
  have hwd := windF_rgM hp (nw 2)
  refine rr_aload_n 0 dX7_flies_0 rfl ?_
  refine rr_aload_n 0 dX7_flies_1 rfl ?_
  refine rr_get fX7_52 0 rfl rfl dX7_flies_2 ?_
  refine rr_iconst dX7_flies_5 ?_
  refine rr_iald 2 3 rfl rfl (by omega) (by omega) dX7_flies_6 ?_
  have ke_1 : stp nw (nw 3) 2 = nw 2 := rfl
  have ke_2 : stp nw (nw 3) 3 = nw 3 := rfl
  have ke_3 : stp nw (nw 3) 4 = nw 4 := rfl
  have ke_4 : stp nw (nw 3) 5 = nw 5 := rfl
  have ke_5 : stp nw (nw 3) 6 = nw 6 := rfl
  refine rr_callFv (ws2 := [(m, ob 7 [.int (zz ↑np), .ref mP, .ref mW, .int (zz ↑nr), .ref mR, .ref mB, .ref mS, .int (zz ↑ac), .ref mA, .int (zz ↑ke), .ref mK, .int (zz ↑se), .ref mE, .ref mT, .int (zz ↑tl), .int (zz ↑at_), .ref mD, .int (zz ↑rp), .ref nP, .ref nW, .int (zz ↑rr), .ref nR, .ref nB, .ref mN, .ref mO, .ref mQ, .int (zz dp), .ref mX]), (mW, aI E 10 wn), (mN, aI E 7 (stp nw (nw 3)))]) (wr := [(mW, aI E 10 wn)]) (call_V (q0 := 0) kX7_164 (c_goesTo E (d + 0) m mP mW mR mB mS mA mK mE mT mD nP nW nR nB mN mO mQ mX np nr ac ke se tl at_ rp rr dp nw (nw 3) (by omega) hw.1 hw.2.1) rfl rfl rfl rfl (by omega) (by decide) (Nat.le_of_ble_eq_true rfl) (Nat.le_of_ble_eq_true rfl) dX7_flies_7) [0, 2] [1] [1, 0, 2] rfl rfl rfl rfl rfl rfl rfl ?_
  refine rr_aload_n 0 dX7_flies_10 rfl ?_
  have j1 : RR E mX7_flies (d + 2) 0 0 33 [(0, .ref m)] [.int (zz (windF wn (nw 2))), .ref m] [(m, ob 7 [.int (zz ↑np), .ref mP, .ref mW, .int (zz ↑nr), .ref mR, .ref mB, .ref mS, .int (zz ↑ac), .ref mA, .int (zz ↑ke), .ref mK, .int (zz ↑se), .ref mE, .ref mT, .int (zz ↑tl), .int (zz ↑at_), .ref mD, .int (zz ↑rp), .ref nP, .ref nW, .int (zz ↑rr), .ref nR, .ref nB, .ref mN, .ref mO, .ref mQ, .int (zz dp), .ref mX]), (mW, aI E 10 wn), (mN, aI E 7 (stp nw (nw 3)))] (FP none [(m, ob 7 [.int (zz ↑np), .ref mP, .ref mW, .int (zz ↑nr), .ref mR, .ref mB, .ref mS, .int (zz ↑ac), .ref mA, .int (zz ↑ke), .ref mK, .int (zz ↑se), .ref mE, .ref mT, .int (zz ↑tl), .int (zz ↑at_), .ref mD, .int (zz ↑rp), .ref nP, .ref nW, .int (zz ↑rr), .ref nR, .ref nB, .ref mN, .ref mO, .ref mQ, .int (zz dp), .ref mX]), (mW, aI E 10 wn), (mN, aI E 7 (flF wn nw))]) := by
    have ke_6 : stp (stp nw (nw 3)) (windF wn (nw 2)) 2 = nw 2 := rfl
    have ke_7 : stp (stp nw (nw 3)) (windF wn (nw 2)) 3 = nw 3 := rfl
    have ke_8 : stp (stp nw (nw 3)) (windF wn (nw 2)) 4 = nw 4 := rfl
    have ke_9 : stp (stp nw (nw 3)) (windF wn (nw 2)) 5 = nw 5 := rfl
    have ke_10 : stp (stp nw (nw 3)) (windF wn (nw 2)) 6 = nw 6 := rfl
    refine rr_callFv (ws2 := [(m, ob 7 [.int (zz ↑np), .ref mP, .ref mW, .int (zz ↑nr), .ref mR, .ref mB, .ref mS, .int (zz ↑ac), .ref mA, .int (zz ↑ke), .ref mK, .int (zz ↑se), .ref mE, .ref mT, .int (zz ↑tl), .int (zz ↑at_), .ref mD, .int (zz ↑rp), .ref nP, .ref nW, .int (zz ↑rr), .ref nR, .ref nB, .ref mN, .ref mO, .ref mQ, .int (zz dp), .ref mX]), (mW, aI E 10 wn), (mN, aI E 7 (stp (stp nw (nw 3)) (windF wn (nw 2))))]) (wr := [(mW, aI E 10 wn)]) (call_V (q0 := 0) kX7_164 (c_goesTo E (d + 0) m mP mW mR mB mS mA mK mE mT mD nP nW nR nB mN mO mQ mX np nr ac ke se tl at_ rp rr dp (stp nw (nw 3)) (windF wn (nw 2)) (by omega) (stp_mok (d := nw 3) hw).1 (stp_mok (d := nw 3) hw).2.1) rfl rfl rfl rfl (by omega) (by decide) (Nat.le_of_ble_eq_true rfl) (Nat.le_of_ble_eq_true rfl) dX7_flies_33) [0, 2] [1] [1, 0, 2] rfl rfl rfl rfl rfl rfl rfl ?_
    refine rr_aload_n 0 dX7_flies_36 rfl ?_
    refine rr_get fX7_52 0 rfl rfl dX7_flies_37 ?_
    refine rr_iconst dX7_flies_40 ?_
    refine rr_dup2 dX7_flies_41 rfl rfl ?_
    refine rr_iald 2 4 rfl rfl (by omega) (by omega) dX7_flies_42 ?_
    refine rr_iconst dX7_flies_43 ?_
    refine rr_iadd dX7_flies_44 ?_
    refine rr_iast (ws2 := [(m, ob 7 [.int (zz ↑np), .ref mP, .ref mW, .int (zz ↑nr), .ref mR, .ref mB, .ref mS, .int (zz ↑ac), .ref mA, .int (zz ↑ke), .ref mK, .int (zz ↑se), .ref mE, .ref mT, .int (zz ↑tl), .int (zz ↑at_), .ref mD, .int (zz ↑rp), .ref nP, .ref nW, .int (zz ↑rr), .ref nR, .ref nB, .ref mN, .ref mO, .ref mQ, .int (zz dp), .ref mX]), (mW, aI E 10 wn), (mN, aI E 7 (updI (stp (stp nw (nw 3)) (windF wn (nw 2))) 4 ((nw 4) + 1)))]) 2 4 rfl rfl (by omega) (by omega) rfl dX7_flies_45 ?_
    exact rr_ret dX7_flies_46 rfl ⟨rfl, rfl⟩
  refine rr_aload_n 0 dX7_flies_11 rfl ?_
  refine rr_callFi (ws2 := [(m, ob 7 [.int (zz ↑np), .ref mP, .ref mW, .int (zz ↑nr), .ref mR, .ref mB, .ref mS, .int (zz ↑ac), .ref mA, .int (zz ↑ke), .ref mK, .int (zz ↑se), .ref mE, .ref mT, .int (zz ↑tl), .int (zz ↑at_), .ref mD, .int (zz ↑rp), .ref nP, .ref nW, .int (zz ↑rr), .ref nR, .ref nB, .ref mN, .ref mO, .ref mQ, .int (zz dp), .ref mX]), (mW, aI E 10 wn), (mN, aI E 7 (stp nw (nw 3)))]) (wr := [(mW, aI E 10 wn)]) (call_V (q0 := 0) kX7_151 (c_MisDown E (d + 1) m mP mW mR mB mS mA mK mE mT mD nP nW nR nB mN mO mQ mX np nr ac ke se tl at_ rp rr dp (stp nw (nw 3)) (by omega)) rfl rfl rfl rfl (by omega) (by decide) (Nat.le_of_ble_eq_true rfl) (Nat.le_of_ble_eq_true rfl) dX7_flies_12) [0, 2] [1] [1, 0, 2] rfl rfl rfl rfl rfl rfl rfl ?_
  refine rr_if_eqD 22 dX7_flies_15 (by decide) (fun c_11 => ?_) (fun c_11 => ?_)
  · skip
    refine rr_aload_n 0 dX7_flies_22 rfl ?_
    refine rr_get fX7_13 0 rfl rfl dX7_flies_23 ?_
    refine rr_aload_n 0 dX7_flies_26 rfl ?_
    refine rr_get fX7_52 0 rfl rfl dX7_flies_27 ?_
    refine rr_iconst dX7_flies_30 ?_
    refine rr_iald 2 2 rfl rfl (by omega) (by omega) dX7_flies_31 ?_
    refine rr_iald 1 ((nw 2).toNat) rfl (by omega) (by omega) (by omega) dX7_flies_32 ?_
    exact rr_top (by unfold windF; first | rw [if_pos (by omega)] | rw [if_neg (by omega)]) j1
  · skip
    refine rr_iconst dX7_flies_18 ?_
    refine rr_goto 33 dX7_flies_19 (by decide) ?_
    exact rr_top (by unfold windF; first | rw [if_pos (by omega)] | rw [if_neg (by omega)]) j1
set_option maxRecDepth 100000 in
set_option maxHeartbeats 400000 in
theorem c_turns (E : Ev) (d : Nat) (m mP mW mR mB mS mA mK mE mT mD nP nW nR nB mN mO mQ mX : Nat) (np nr ac ke se tl at_ rp rr : Nat) (dp : Int) (pg wn nw : Nat → Int) (i : Nat) (hp : pgOK np pg wn) (hw : mOK np nw) (hi : i < np) : SP E mX7_turns (d + 3) 0 0 [.ref m, .int (zz ↑i)] [(m, ob 7 [.int (zz ↑np), .ref mP, .ref mW, .int (zz ↑nr), .ref mR, .ref mB, .ref mS, .int (zz ↑ac), .ref mA, .int (zz ↑ke), .ref mK, .int (zz ↑se), .ref mE, .ref mT, .int (zz ↑tl), .int (zz ↑at_), .ref mD, .int (zz ↑rp), .ref nP, .ref nW, .int (zz ↑rr), .ref nR, .ref nB, .ref mN, .ref mO, .ref mQ, .int (zz dp), .ref mX]), (mP, aI E 21 pg), (mW, aI E 10 wn), (mN, aI E 7 nw)] (FP none [(m, ob 7 [.int (zz ↑np), .ref mP, .ref mW, .int (zz ↑nr), .ref mR, .ref mB, .ref mS, .int (zz ↑ac), .ref mA, .int (zz ↑ke), .ref mK, .int (zz ↑se), .ref mE, .ref mT, .int (zz ↑tl), .int (zz ↑at_), .ref mD, .int (zz ↑rp), .ref nP, .ref nW, .int (zz ↑rr), .ref nR, .ref nB, .ref mN, .ref mO, .ref mQ, .int (zz dp), .ref mX]), (mP, aI E 21 pg), (mW, aI E 10 wn), (mN, aI E 7 (tnM pg wn nw i))]) := by
  show RR E mX7_turns (d + 3) 0 0 0 [(0, .ref m), (1, .int (zz ↑i))] [] [(m, ob 7 [.int (zz ↑np), .ref mP, .ref mW, .int (zz ↑nr), .ref mR, .ref mB, .ref mS, .int (zz ↑ac), .ref mA, .int (zz ↑ke), .ref mK, .int (zz ↑se), .ref mE, .ref mT, .int (zz ↑tl), .int (zz ↑at_), .ref mD, .int (zz ↑rp), .ref nP, .ref nW, .int (zz ↑rr), .ref nR, .ref nB, .ref mN, .ref mO, .ref mQ, .int (zz dp), .ref mX]), (mP, aI E 21 pg), (mW, aI E 10 wn), (mN, aI E 7 nw)] (FP none [(m, ob 7 [.int (zz ↑np), .ref mP, .ref mW, .int (zz ↑nr), .ref mR, .ref mB, .ref mS, .int (zz ↑ac), .ref mA, .int (zz ↑ke), .ref mK, .int (zz ↑se), .ref mE, .ref mT, .int (zz ↑tl), .int (zz ↑at_), .ref mD, .int (zz ↑rp), .ref nP, .ref nW, .int (zz ↑rr), .ref nR, .ref nB, .ref mN, .ref mO, .ref mQ, .int (zz dp), .ref mX]), (mP, aI E 21 pg), (mW, aI E 10 wn), (mN, aI E 7 (tnM pg wn nw i))])
  obtain ⟨n0, n1, n2, n3, n5, n6⟩ := id hw
  have hn := hp.1
  obtain ⟨k0, u0, t0⟩ := hp.2.1 i hi
  have hl := liftF_rg (k := pg (3 * i)) (c := nw 3) (b := dbM pg (nw 6)) (r := nw 5) u0
  have hq := quM_rg (k := pg (3 * i)) (c := nw 3) t0
  have e3 : updI nw 2 (clampI (nw 2 + liftF (pg (3 * i)) (pg (3 * i + 1)) (nw 3) (dbM pg (nw 6)) (nw 5)) 9) 3 = nw 3 := rfl
  refine rr_aload_n 0 dX7_turns_0 rfl ?_
  refine rr_iload_n 1 dX7_turns_1 rfl ?_
  refine rr_callFi (ws2 := [(m, ob 7 [.int (zz ↑np), .ref mP, .ref mW, .int (zz ↑nr), .ref mR, .ref mB, .ref mS, .int (zz ↑ac), .ref mA, .int (zz ↑ke), .ref mK, .int (zz ↑se), .ref mE, .ref mT, .int (zz ↑tl), .int (zz ↑at_), .ref mD, .int (zz ↑rp), .ref nP, .ref nW, .int (zz ↑rr), .ref nR, .ref nB, .ref mN, .ref mO, .ref mQ, .int (zz dp), .ref mX]), (mP, aI E 21 pg), (mW, aI E 10 wn), (mN, aI E 7 nw)]) (wr := [(mW, aI E 10 wn)]) (call_V (q0 := 0) kX7_168 (c_MquartersOf E (d + 2) m mP mW mR mB mS mA mK mE mT mD nP nW nR nB mN mO mQ mX np nr ac ke se tl at_ rp rr dp pg wn nw i hp hw (by omega)) rfl rfl rfl rfl (by omega) (by decide) (Nat.le_of_ble_eq_true rfl) (Nat.le_of_ble_eq_true rfl) dX7_turns_2) [0, 1, 3] [2] [1, 2, 0, 3] rfl rfl rfl rfl rfl rfl rfl ?_
  refine rr_istore_n (lv2 := [(0, .ref m), (1, .int (zz ↑i)), (2, .int (zz (quM (pg (3 * i)) (pg (3 * i + 2)) (nw 3))))]) dX7_turns_5 (by decide) rfl ?_
  refine rr_aload_n 0 dX7_turns_6 rfl ?_
  refine rr_get fX7_52 0 rfl rfl dX7_turns_7 ?_
  refine rr_iconst dX7_turns_10 ?_
  refine rr_aload_n 0 dX7_turns_11 rfl ?_
  refine rr_get fX7_52 0 rfl rfl dX7_turns_12 ?_
  refine rr_iconst dX7_turns_15 ?_
  refine rr_iald 3 2 rfl rfl (by omega) (by omega) dX7_turns_16 ?_
  refine rr_aload_n 0 dX7_turns_17 rfl ?_
  refine rr_iload_n 1 dX7_turns_18 rfl ?_
  refine rr_callFi (ws2 := [(m, ob 7 [.int (zz ↑np), .ref mP, .ref mW, .int (zz ↑nr), .ref mR, .ref mB, .ref mS, .int (zz ↑ac), .ref mA, .int (zz ↑ke), .ref mK, .int (zz ↑se), .ref mE, .ref mT, .int (zz ↑tl), .int (zz ↑at_), .ref mD, .int (zz ↑rp), .ref nP, .ref nW, .int (zz ↑rr), .ref nR, .ref nB, .ref mN, .ref mO, .ref mQ, .int (zz dp), .ref mX]), (mP, aI E 21 pg), (mW, aI E 10 wn), (mN, aI E 7 nw)]) (wr := [(mW, aI E 10 wn)]) (call_V (q0 := 0) kX7_171 (c_MliftOf E (d + 1) m mP mW mR mB mS mA mK mE mT mD nP nW nR nB mN mO mQ mX np nr ac ke se tl at_ rp rr dp pg wn nw i hp hw (by omega)) rfl rfl rfl rfl (by omega) (by decide) (Nat.le_of_ble_eq_true rfl) (Nat.le_of_ble_eq_true rfl) dX7_turns_19) [0, 1, 3] [2] [1, 2, 0, 3] rfl rfl rfl rfl rfl rfl rfl ?_
  refine rr_iadd dX7_turns_22 ?_
  refine rr_callFi (ws2 := [(m, ob 7 [.int (zz ↑np), .ref mP, .ref mW, .int (zz ↑nr), .ref mR, .ref mB, .ref mS, .int (zz ↑ac), .ref mA, .int (zz ↑ke), .ref mK, .int (zz ↑se), .ref mE, .ref mT, .int (zz ↑tl), .int (zz ↑at_), .ref mD, .int (zz ↑rp), .ref nP, .ref nW, .int (zz ↑rr), .ref nR, .ref nB, .ref mN, .ref mO, .ref mQ, .int (zz dp), .ref mX]), (mP, aI E 21 pg), (mW, aI E 10 wn), (mN, aI E 7 nw)]) (wr := [(m, ob 7 [.int (zz ↑np), .ref mP, .ref mW, .int (zz ↑nr), .ref mR, .ref mB, .ref mS, .int (zz ↑ac), .ref mA, .int (zz ↑ke), .ref mK, .int (zz ↑se), .ref mE, .ref mT, .int (zz ↑tl), .int (zz ↑at_), .ref mD, .int (zz ↑rp), .ref nP, .ref nW, .int (zz ↑rr), .ref nR, .ref nB, .ref mN, .ref mO, .ref mQ, .int (zz dp), .ref mX]), (mP, aI E 21 pg), (mW, aI E 10 wn), (mN, aI E 7 nw)]) (call_S kX7_161 (c_bounded E (d + 2) ((nw 2) + (liftF (pg (3 * i)) (pg (3 * i + 1)) (nw 3) (dbM pg (nw 6)) (nw 5))) (by omega)) rfl (by omega) (by decide) (Nat.le_of_ble_eq_true rfl) (Nat.le_of_ble_eq_true rfl) dX7_turns_23) [] [0, 1, 2, 3] [0, 1, 2, 3] rfl rfl rfl rfl rfl rfl rfl ?_
  refine rr_iast (ws2 := [(m, ob 7 [.int (zz ↑np), .ref mP, .ref mW, .int (zz ↑nr), .ref mR, .ref mB, .ref mS, .int (zz ↑ac), .ref mA, .int (zz ↑ke), .ref mK, .int (zz ↑se), .ref mE, .ref mT, .int (zz ↑tl), .int (zz ↑at_), .ref mD, .int (zz ↑rp), .ref nP, .ref nW, .int (zz ↑rr), .ref nR, .ref nB, .ref mN, .ref mO, .ref mQ, .int (zz dp), .ref mX]), (mP, aI E 21 pg), (mW, aI E 10 wn), (mN, aI E 7 (updI nw 2 (clampI ((nw 2) + (liftF (pg (3 * i)) (pg (3 * i + 1)) (nw 3) (dbM pg (nw 6)) (nw 5))) 9)))]) 3 2 rfl rfl (by omega) (by omega) rfl dX7_turns_26 ?_
  refine rr_aload_n 0 dX7_turns_27 rfl ?_
  refine rr_get fX7_52 0 rfl rfl dX7_turns_28 ?_
  refine rr_iconst dX7_turns_31 ?_
  refine rr_aload_n 0 dX7_turns_32 rfl ?_
  refine rr_get fX7_52 0 rfl rfl dX7_turns_33 ?_
  refine rr_iconst dX7_turns_36 ?_
  refine rr_iald 3 3 rfl rfl (by omega) (by omega) dX7_turns_37 ?_
  refine rr_iload_n 2 dX7_turns_38 rfl ?_
  refine rr_iadd dX7_turns_39 ?_
  refine rr_iconst dX7_turns_40 ?_
  refine rr_irem dX7_turns_41 (by omega) (by omega) ?_
  refine rr_iast (ws2 := [(m, ob 7 [.int (zz ↑np), .ref mP, .ref mW, .int (zz ↑nr), .ref mR, .ref mB, .ref mS, .int (zz ↑ac), .ref mA, .int (zz ↑ke), .ref mK, .int (zz ↑se), .ref mE, .ref mT, .int (zz ↑tl), .int (zz ↑at_), .ref mD, .int (zz ↑rp), .ref nP, .ref nW, .int (zz ↑rr), .ref nR, .ref nB, .ref mN, .ref mO, .ref mQ, .int (zz dp), .ref mX]), (mP, aI E 21 pg), (mW, aI E 10 wn), (mN, aI E 7 (updI (updI nw 2 (clampI ((nw 2) + (liftF (pg (3 * i)) (pg (3 * i + 1)) (nw 3) (dbM pg (nw 6)) (nw 5))) 9)) 3 (((nw 3) + (quM (pg (3 * i)) (pg (3 * i + 2)) (nw 3))) % 4)))]) 3 3 rfl rfl (by omega) (by omega) rfl dX7_turns_42 ?_
  refine rr_aload_n 0 dX7_turns_43 rfl ?_
  have ke_1 : flF wn (updI (updI nw 2 (clampI ((nw 2) + (liftF (pg (3 * i)) (pg (3 * i + 1)) (nw 3) (dbM pg (nw 6)) (nw 5))) 9)) 3 (((nw 3) + (quM (pg (3 * i)) (pg (3 * i + 2)) (nw 3))) % 4)) 2 = clampI ((nw 2) + (liftF (pg (3 * i)) (pg (3 * i + 1)) (nw 3) (dbM pg (nw 6)) (nw 5))) 9 := rfl
  have ke_2 : flF wn (updI (updI nw 2 (clampI ((nw 2) + (liftF (pg (3 * i)) (pg (3 * i + 1)) (nw 3) (dbM pg (nw 6)) (nw 5))) 9)) 3 (((nw 3) + (quM (pg (3 * i)) (pg (3 * i + 2)) (nw 3))) % 4)) 3 = ((nw 3) + (quM (pg (3 * i)) (pg (3 * i + 2)) (nw 3))) % 4 := rfl
  have ke_3 : flF wn (updI (updI nw 2 (clampI ((nw 2) + (liftF (pg (3 * i)) (pg (3 * i + 1)) (nw 3) (dbM pg (nw 6)) (nw 5))) 9)) 3 (((nw 3) + (quM (pg (3 * i)) (pg (3 * i + 2)) (nw 3))) % 4)) 5 = nw 5 := rfl
  have ke_4 : flF wn (updI (updI nw 2 (clampI ((nw 2) + (liftF (pg (3 * i)) (pg (3 * i + 1)) (nw 3) (dbM pg (nw 6)) (nw 5))) 9)) 3 (((nw 3) + (quM (pg (3 * i)) (pg (3 * i + 2)) (nw 3))) % 4)) 6 = nw 6 := rfl
  refine rr_callFv (ws2 := [(m, ob 7 [.int (zz ↑np), .ref mP, .ref mW, .int (zz ↑nr), .ref mR, .ref mB, .ref mS, .int (zz ↑ac), .ref mA, .int (zz ↑ke), .ref mK, .int (zz ↑se), .ref mE, .ref mT, .int (zz ↑tl), .int (zz ↑at_), .ref mD, .int (zz ↑rp), .ref nP, .ref nW, .int (zz ↑rr), .ref nR, .ref nB, .ref mN, .ref mO, .ref mQ, .int (zz dp), .ref mX]), (mP, aI E 21 pg), (mW, aI E 10 wn), (mN, aI E 7 (flF wn (updI (updI nw 2 (clampI ((nw 2) + (liftF (pg (3 * i)) (pg (3 * i + 1)) (nw 3) (dbM pg (nw 6)) (nw 5))) 9)) 3 (((nw 3) + (quM (pg (3 * i)) (pg (3 * i + 2)) (nw 3))) % 4))))]) (wr := [(mP, aI E 21 pg)]) (call_V (q0 := 0) kX7_174 (c_flies E (d + 0) m mP mW mR mB mS mA mK mE mT mD nP nW nR nB mN mO mQ mX np nr ac ke se tl at_ rp rr dp pg wn (updI (updI nw 2 (clampI ((nw 2) + (liftF (pg (3 * i)) (pg (3 * i + 1)) (nw 3) (dbM pg (nw 6)) (nw 5))) 9)) 3 (((nw 3) + (quM (pg (3 * i)) (pg (3 * i + 2)) (nw 3))) % 4)) hp (mid_mok (L := liftF (pg (3 * i)) (pg (3 * i + 1)) (nw 3) (dbM pg (nw 6)) (nw 5)) (Q := quM (pg (3 * i)) (pg (3 * i + 2)) (nw 3)) hw)) rfl rfl rfl rfl (by omega) (by decide) (Nat.le_of_ble_eq_true rfl) (Nat.le_of_ble_eq_true rfl) dX7_turns_44) [0, 2, 3] [1] [1, 0, 2, 3] rfl rfl rfl rfl rfl rfl rfl ?_
  refine rr_aload_n 0 dX7_turns_47 rfl ?_
  refine rr_get fX7_52 0 rfl rfl dX7_turns_48 ?_
  refine rr_bipush dX7_turns_51 (by decide) ?_
  refine rr_iload_n 1 dX7_turns_53 rfl ?_
  refine rr_iast (ws2 := [(m, ob 7 [.int (zz ↑np), .ref mP, .ref mW, .int (zz ↑nr), .ref mR, .ref mB, .ref mS, .int (zz ↑ac), .ref mA, .int (zz ↑ke), .ref mK, .int (zz ↑se), .ref mE, .ref mT, .int (zz ↑tl), .int (zz ↑at_), .ref mD, .int (zz ↑rp), .ref nP, .ref nW, .int (zz ↑rr), .ref nR, .ref nB, .ref mN, .ref mO, .ref mQ, .int (zz dp), .ref mX]), (mP, aI E 21 pg), (mW, aI E 10 wn), (mN, aI E 7 (updI (flF wn (updI (updI nw 2 (clampI ((nw 2) + (liftF (pg (3 * i)) (pg (3 * i + 1)) (nw 3) (dbM pg (nw 6)) (nw 5))) 9)) 3 (((nw 3) + (quM (pg (3 * i)) (pg (3 * i + 2)) (nw 3))) % 4))) 6 ↑i))]) 3 6 rfl rfl (by omega) (by omega) rfl dX7_turns_54 ?_
  exact rr_ret dX7_turns_55 rfl ⟨rfl, rfl⟩
set_option maxRecDepth 100000 in
set_option maxHeartbeats 400000 in
theorem c_copies (E : Ev) (d : Nat) (A B na nb a0 b0 n : Nat) (fa gb : Nat → Int) (ha : a0 + n ≤ na) (hb : b0 + n ≤ nb) (hna : na ≤ 1000) (hnb : nb ≤ 1000) : SP E mX7_copies (d + 0) 0 0 [.ref A, .int (zz ↑a0), .ref B, .int (zz ↑b0), .int (zz ↑n)] [(A, aI E na fa), (B, aI E nb gb)] (FP none [(A, aI E na (cpI fa a0 gb b0 n)), (B, aI E nb gb)]) := by
  show RR E mX7_copies (d + 0) 0 0 0 [(0, .ref A), (1, .int (zz ↑a0)), (2, .ref B), (3, .int (zz ↑b0)), (4, .int (zz ↑n))] [] [(A, aI E na fa), (B, aI E nb gb)] (FP none [(A, aI E na (cpI fa a0 gb b0 n)), (B, aI E nb gb)])
  have lp : ∀ (r i : Nat), i + r = n → RR E mX7_copies (d + 0) 0 0 3 [(0, .ref A), (1, .int (zz ↑a0)), (2, .ref B), (3, .int (zz ↑b0)), (4, .int (zz ↑n)), (5, .int (zz ↑i))] [] [(A, aI E na (cpI fa a0 gb b0 i)), (B, aI E nb gb)] (FP none [(A, aI E na (cpI fa a0 gb b0 n)), (B, aI E nb gb)]) := by
    intro r
    induction r with
    | zero =>
      intro i h1
      obtain rfl : i = n := by omega
      refine rr_iload 5 dX7_copies_3 rfl ?_
      refine rr_iload 4 dX7_copies_5 rfl ?_
      refine rr_icmp_ge 28 dX7_copies_7 (by decide) (by omega) (by omega) (fun c_1 => ?_) (fun c_1 => ?_)
      · skip
        exact rr_ret dX7_copies_28 rfl ⟨rfl, rfl⟩
      · skip
        exfalso; omega
    | succ r ih =>
      intro i h1
      refine rr_iload 5 dX7_copies_3 rfl ?_
      refine rr_iload 4 dX7_copies_5 rfl ?_
      refine rr_icmp_ge 28 dX7_copies_7 (by decide) (by omega) (by omega) (fun c_2 => ?_) (fun c_2 => ?_)
      · skip
        exfalso; omega
      · skip
        refine rr_aload_n 0 dX7_copies_10 rfl ?_
        refine rr_iload_n 1 dX7_copies_11 rfl ?_
        refine rr_iload 5 dX7_copies_12 rfl ?_
        refine rr_iadd dX7_copies_14 ?_
        refine rr_aload_n 2 dX7_copies_15 rfl ?_
        refine rr_iload_n 3 dX7_copies_16 rfl ?_
        refine rr_iload 5 dX7_copies_17 rfl ?_
        refine rr_iadd dX7_copies_19 ?_
        refine rr_iald 1 (b0 + i) rfl (by omega) (by omega) (by omega) dX7_copies_20 ?_
        refine rr_iast (ws2 := [(A, aI E na (updI (cpI fa a0 gb b0 i) (a0 + i) (gb (b0 + i)))), (B, aI E nb gb)]) 0 (a0 + i) rfl (by omega) (by omega) (by omega) rfl dX7_copies_21 ?_
        refine rr_iinc (lv2 := [(0, .ref A), (1, .int (zz ↑a0)), (2, .ref B), (3, .int (zz ↑b0)), (4, .int (zz ↑n)), (5, .int (zz (↑(i + 1))))]) 5 dX7_copies_22 rfl (by decide) rfl ?_
        refine rr_goto 3 dX7_copies_25 (by decide) ?_
        refine RR.eq (ws2 := [(A, aI E na (cpI fa a0 gb b0 (i + 1))), (B, aI E nb gb)]) rfl rfl rfl (by rw [cpI_s]) ?_
        exact ih (i + 1) (by omega)
  refine rr_iconst dX7_copies_0 ?_
  refine rr_istore (lv2 := [(0, .ref A), (1, .int (zz ↑a0)), (2, .ref B), (3, .int (zz ↑b0)), (4, .int (zz ↑n)), (5, .int (zz 0))]) dX7_copies_1 (by decide) rfl ?_
  refine RR.eq (ws2 := [(A, aI E na (cpI fa a0 gb b0 0)), (B, aI E nb gb)]) rfl rfl rfl (by rw [cpI_0]) ?_
  exact lp n 0 (by omega)
set_option maxRecDepth 100000 in
set_option maxHeartbeats 400000 in
theorem c_from (E : Ev) (d : Nat) (m mP mW mR mB mS mA mK mE mT mD nP nW nR nB mN mO mQ mX : Nat) (np nr ac ke se tl at_ rp rr : Nat) (dp : Int) (R : Nat) (nw rw : Nat → Int) : SP E mX7_from (d + 1) 0 0 [.ref m, .ref R] [(m, ob 7 [.int (zz ↑np), .ref mP, .ref mW, .int (zz ↑nr), .ref mR, .ref mB, .ref mS, .int (zz ↑ac), .ref mA, .int (zz ↑ke), .ref mK, .int (zz ↑se), .ref mE, .ref mT, .int (zz ↑tl), .int (zz ↑at_), .ref mD, .int (zz ↑rp), .ref nP, .ref nW, .int (zz ↑rr), .ref nR, .ref nB, .ref mN, .ref mO, .ref mQ, .int (zz dp), .ref mX]), (mN, aI E 7 nw), (R, aI E 7 rw)] (FP none [(m, ob 7 [.int (zz ↑np), .ref mP, .ref mW, .int (zz ↑nr), .ref mR, .ref mB, .ref mS, .int (zz ↑ac), .ref mA, .int (zz ↑ke), .ref mK, .int (zz ↑se), .ref mE, .ref mT, .int (zz ↑tl), .int (zz ↑at_), .ref mD, .int (zz ↑rp), .ref nP, .ref nW, .int (zz ↑rr), .ref nR, .ref nB, .ref mN, .ref mO, .ref mQ, .int (zz dp), .ref mX]), (mN, aI E 7 (cpI nw 0 rw 0 7)), (R, aI E 7 rw)]) := by
  show RR E mX7_from (d + 1) 0 0 0 [(0, .ref m), (1, .ref R)] [] [(m, ob 7 [.int (zz ↑np), .ref mP, .ref mW, .int (zz ↑nr), .ref mR, .ref mB, .ref mS, .int (zz ↑ac), .ref mA, .int (zz ↑ke), .ref mK, .int (zz ↑se), .ref mE, .ref mT, .int (zz ↑tl), .int (zz ↑at_), .ref mD, .int (zz ↑rp), .ref nP, .ref nW, .int (zz ↑rr), .ref nR, .ref nB, .ref mN, .ref mO, .ref mQ, .int (zz dp), .ref mX]), (mN, aI E 7 nw), (R, aI E 7 rw)] (FP none [(m, ob 7 [.int (zz ↑np), .ref mP, .ref mW, .int (zz ↑nr), .ref mR, .ref mB, .ref mS, .int (zz ↑ac), .ref mA, .int (zz ↑ke), .ref mK, .int (zz ↑se), .ref mE, .ref mT, .int (zz ↑tl), .int (zz ↑at_), .ref mD, .int (zz ↑rp), .ref nP, .ref nW, .int (zz ↑rr), .ref nR, .ref nB, .ref mN, .ref mO, .ref mQ, .int (zz dp), .ref mX]), (mN, aI E 7 (cpI nw 0 rw 0 7)), (R, aI E 7 rw)])
  refine rr_aload_n 0 dX7_from_0 rfl ?_
  refine rr_get fX7_52 0 rfl rfl dX7_from_1 ?_
  refine rr_iconst dX7_from_4 ?_
  refine rr_aload_n 1 dX7_from_5 rfl ?_
  refine rr_iconst dX7_from_6 ?_
  refine rr_bipush dX7_from_7 (by decide) ?_
  refine rr_callFv (ws2 := [(m, ob 7 [.int (zz ↑np), .ref mP, .ref mW, .int (zz ↑nr), .ref mR, .ref mB, .ref mS, .int (zz ↑ac), .ref mA, .int (zz ↑ke), .ref mK, .int (zz ↑se), .ref mE, .ref mT, .int (zz ↑tl), .int (zz ↑at_), .ref mD, .int (zz ↑rp), .ref nP, .ref nW, .int (zz ↑rr), .ref nR, .ref nB, .ref mN, .ref mO, .ref mQ, .int (zz dp), .ref mX]), (mN, aI E 7 (cpI nw 0 rw 0 7)), (R, aI E 7 rw)]) (wr := [(m, ob 7 [.int (zz ↑np), .ref mP, .ref mW, .int (zz ↑nr), .ref mR, .ref mB, .ref mS, .int (zz ↑ac), .ref mA, .int (zz ↑ke), .ref mK, .int (zz ↑se), .ref mE, .ref mT, .int (zz ↑tl), .int (zz ↑at_), .ref mD, .int (zz ↑rp), .ref nP, .ref nW, .int (zz ↑rr), .ref nR, .ref nB, .ref mN, .ref mO, .ref mQ, .int (zz dp), .ref mX])]) (call_S kX7_138 (c_copies E (d + 0) mN R 7 7 0 0 7 nw rw (by omega) (by omega) (by omega) (by omega)) rfl (by omega) (by decide) (Nat.le_of_ble_eq_true rfl) (Nat.le_of_ble_eq_true rfl) dX7_from_9) [1, 2] [0] [0, 1, 2] rfl rfl rfl rfl rfl rfl rfl ?_
  exact rr_ret dX7_from_12 rfl ⟨rfl, rfl⟩
