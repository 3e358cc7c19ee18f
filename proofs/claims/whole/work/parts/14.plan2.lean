set_option maxRecDepth 100000 in
set_option maxHeartbeats 4000000 in
theorem c_addPeg_y (E : Ev) (d : Nat) (p pK pL pQ pW pX pY pS : Nat) (np nr : Nat) (kd lf qt : Nat → Int) (k u t : Int) (hn : np ≤ 7) (rk : -2147483648 ≤ k ∧ k < 2147483648) (ru : -2147483648 ≤ u ∧ u < 2147483648) (rt : -2147483648 ≤ t ∧ t < 2147483648) (hc : np < 7 ∧ k < 4 ∧ u < 10 ∧ t ≤ 3) : SP E mX2_addPeg (d + 0) 0 0 [.ref p, .int (zz k), .int (zz u), .int (zz t)] [(p, ob 2 [.ref pK, .ref pL, .ref pQ, .ref pW, .ref pX, .ref pY, .ref pS, .int (zz ↑np), .int (zz ↑nr)]), (pK, aI E 7 kd), (pL, aI E 7 lf), (pQ, aI E 7 qt)] (FP (some (.int (zz 1))) [(p, ob 2 [.ref pK, .ref pL, .ref pQ, .ref pW, .ref pX, .ref pY, .ref pS, .int (zz (↑(np + 1))), .int (zz ↑nr)]), (pK, aI E 7 (updI kd np k)), (pL, aI E 7 (updI lf np u)), (pQ, aI E 7 (updI qt np t))]) := by
  show RR E mX2_addPeg (d + 0) 0 0 0 [(0, .ref p), (1, .int (zz k)), (2, .int (zz u)), (3, .int (zz t))] [] [(p, ob 2 [.ref pK, .ref pL, .ref pQ, .ref pW, .ref pX, .ref pY, .ref pS, .int (zz ↑np), .int (zz ↑nr)]), (pK, aI E 7 kd), (pL, aI E 7 lf), (pQ, aI E 7 qt)] (FP (some (.int (zz 1))) [(p, ob 2 [.ref pK, .ref pL, .ref pQ, .ref pW, .ref pX, .ref pY, .ref pS, .int (zz (↑(np + 1))), .int (zz ↑nr)]), (pK, aI E 7 (updI kd np k)), (pL, aI E 7 (updI lf np u)), (pQ, aI E 7 (updI qt np t))])
  refine rr_aload_n 0 dX2_addPeg_0 rfl ?_
  refine rr_get fX2_37 0 rfl rfl dX2_addPeg_1 ?_
  refine rr_bipush dX2_addPeg_4 (by decide) ?_
  refine rr_icmp_ge 25 dX2_addPeg_6 (by decide) (by omega) (by omega) (fun c_1 => ?_) (fun c_1 => ?_)
  · skip
    exfalso; omega
  · skip
    refine rr_iload_n 1 dX2_addPeg_9 rfl ?_
    refine rr_iconst dX2_addPeg_10 ?_
    refine rr_icmp_ge 25 dX2_addPeg_11 (by decide) (by omega) (by omega) (fun c_2 => ?_) (fun c_2 => ?_)
    · skip
      exfalso; omega
    · skip
      refine rr_iload_n 2 dX2_addPeg_14 rfl ?_
      refine rr_bipush dX2_addPeg_15 (by decide) ?_
      refine rr_icmp_ge 25 dX2_addPeg_17 (by decide) (by omega) (by omega) (fun c_3 => ?_) (fun c_3 => ?_)
      · skip
        exfalso; omega
      · skip
        refine rr_iload_n 3 dX2_addPeg_20 rfl ?_
        refine rr_iconst dX2_addPeg_21 ?_
        refine rr_icmp_le 27 dX2_addPeg_22 (by decide) (by omega) (by omega) (fun c_4 => ?_) (fun c_4 => ?_)
        · skip
          refine rr_aload_n 0 dX2_addPeg_27 rfl ?_
          refine rr_get fX2_9 0 rfl rfl dX2_addPeg_28 ?_
          refine rr_aload_n 0 dX2_addPeg_31 rfl ?_
          refine rr_get fX2_37 0 rfl rfl dX2_addPeg_32 ?_
          refine rr_iload_n 1 dX2_addPeg_35 rfl ?_
          refine rr_iast (ws2 := [(p, ob 2 [.ref pK, .ref pL, .ref pQ, .ref pW, .ref pX, .ref pY, .ref pS, .int (zz ↑np), .int (zz ↑nr)]), (pK, aI E 7 (updI kd np k)), (pL, aI E 7 lf), (pQ, aI E 7 qt)]) 1 np rfl rfl (by omega) (by omega) rfl dX2_addPeg_36 ?_
          refine rr_aload_n 0 dX2_addPeg_37 rfl ?_
          refine rr_get fX2_15 0 rfl rfl dX2_addPeg_38 ?_
          refine rr_aload_n 0 dX2_addPeg_41 rfl ?_
          refine rr_get fX2_37 0 rfl rfl dX2_addPeg_42 ?_
          refine rr_iload_n 2 dX2_addPeg_45 rfl ?_
          refine rr_iast (ws2 := [(p, ob 2 [.ref pK, .ref pL, .ref pQ, .ref pW, .ref pX, .ref pY, .ref pS, .int (zz ↑np), .int (zz ↑nr)]), (pK, aI E 7 (updI kd np k)), (pL, aI E 7 (updI lf np u)), (pQ, aI E 7 qt)]) 2 np rfl rfl (by omega) (by omega) rfl dX2_addPeg_46 ?_
          refine rr_aload_n 0 dX2_addPeg_47 rfl ?_
          refine rr_get fX2_18 0 rfl rfl dX2_addPeg_48 ?_
          refine rr_aload_n 0 dX2_addPeg_51 rfl ?_
          refine rr_get fX2_37 0 rfl rfl dX2_addPeg_52 ?_
          refine rr_iload_n 3 dX2_addPeg_55 rfl ?_
          refine rr_iast (ws2 := [(p, ob 2 [.ref pK, .ref pL, .ref pQ, .ref pW, .ref pX, .ref pY, .ref pS, .int (zz ↑np), .int (zz ↑nr)]), (pK, aI E 7 (updI kd np k)), (pL, aI E 7 (updI lf np u)), (pQ, aI E 7 (updI qt np t))]) 3 np rfl rfl (by omega) (by omega) rfl dX2_addPeg_56 ?_
          refine rr_aload_n 0 dX2_addPeg_57 rfl ?_
          refine rr_dup dX2_addPeg_58 rfl ?_
          refine rr_get fX2_37 0 rfl rfl dX2_addPeg_59 ?_
          refine rr_iconst dX2_addPeg_62 ?_
          refine rr_iadd dX2_addPeg_63 ?_
          refine rr_put (ws2 := [(p, ob 2 [.ref pK, .ref pL, .ref pQ, .ref pW, .ref pX, .ref pY, .ref pS, .int (zz (↑(np + 1))), .int (zz ↑nr)]), (pK, aI E 7 (updI kd np k)), (pL, aI E 7 (updI lf np u)), (pQ, aI E 7 (updI qt np t))]) fX2_37 0 rfl rfl rfl (Nat.le_of_ble_eq_true rfl) rfl dX2_addPeg_64 ?_
          refine rr_iconst dX2_addPeg_67 ?_
          exact rr_iret dX2_addPeg_68 rfl rfl ⟨rfl, rfl⟩
        · skip
          exfalso; omega
set_option maxRecDepth 100000 in
set_option maxHeartbeats 4000000 in
theorem c_addPeg_n (E : Ev) (d : Nat) (p pK pL pQ pW pX pY pS : Nat) (np nr : Nat) (kd lf qt : Nat → Int) (k u t : Int) (hn : np ≤ 7) (rk : -2147483648 ≤ k ∧ k < 2147483648) (ru : -2147483648 ≤ u ∧ u < 2147483648) (rt : -2147483648 ≤ t ∧ t < 2147483648) (hc : ¬ (np < 7 ∧ k < 4 ∧ u < 10 ∧ t ≤ 3)) : SP E mX2_addPeg (d + 0) 0 0 [.ref p, .int (zz k), .int (zz u), .int (zz t)] [(p, ob 2 [.ref pK, .ref pL, .ref pQ, .ref pW, .ref pX, .ref pY, .ref pS, .int (zz ↑np), .int (zz ↑nr)]), (pK, aI E 7 kd), (pL, aI E 7 lf), (pQ, aI E 7 qt)] (FP (some (.int (zz 0))) [(p, ob 2 [.ref pK, .ref pL, .ref pQ, .ref pW, .ref pX, .ref pY, .ref pS, .int (zz ↑np), .int (zz ↑nr)]), (pK, aI E 7 kd), (pL, aI E 7 lf), (pQ, aI E 7 qt)]) := by
  show RR E mX2_addPeg (d + 0) 0 0 0 [(0, .ref p), (1, .int (zz k)), (2, .int (zz u)), (3, .int (zz t))] [] [(p, ob 2 [.ref pK, .ref pL, .ref pQ, .ref pW, .ref pX, .ref pY, .ref pS, .int (zz ↑np), .int (zz ↑nr)]), (pK, aI E 7 kd), (pL, aI E 7 lf), (pQ, aI E 7 qt)] (FP (some (.int (zz 0))) [(p, ob 2 [.ref pK, .ref pL, .ref pQ, .ref pW, .ref pX, .ref pY, .ref pS, .int (zz ↑np), .int (zz ↑nr)]), (pK, aI E 7 kd), (pL, aI E 7 lf), (pQ, aI E 7 qt)])
  refine rr_aload_n 0 dX2_addPeg_0 rfl ?_
  refine rr_get fX2_37 0 rfl rfl dX2_addPeg_1 ?_
  refine rr_bipush dX2_addPeg_4 (by decide) ?_
  refine rr_icmp_ge 25 dX2_addPeg_6 (by decide) (by omega) (by omega) (fun c_1 => ?_) (fun c_1 => ?_)
  · skip
    refine rr_iconst dX2_addPeg_25 ?_
    exact rr_iret dX2_addPeg_26 rfl rfl ⟨rfl, rfl⟩
  · skip
    refine rr_iload_n 1 dX2_addPeg_9 rfl ?_
    refine rr_iconst dX2_addPeg_10 ?_
    refine rr_icmp_ge 25 dX2_addPeg_11 (by decide) (by omega) (by omega) (fun c_2 => ?_) (fun c_2 => ?_)
    · skip
      refine rr_iconst dX2_addPeg_25 ?_
      exact rr_iret dX2_addPeg_26 rfl rfl ⟨rfl, rfl⟩
    · skip
      refine rr_iload_n 2 dX2_addPeg_14 rfl ?_
      refine rr_bipush dX2_addPeg_15 (by decide) ?_
      refine rr_icmp_ge 25 dX2_addPeg_17 (by decide) (by omega) (by omega) (fun c_3 => ?_) (fun c_3 => ?_)
      · skip
        refine rr_iconst dX2_addPeg_25 ?_
        exact rr_iret dX2_addPeg_26 rfl rfl ⟨rfl, rfl⟩
      · skip
        refine rr_iload_n 3 dX2_addPeg_20 rfl ?_
        refine rr_iconst dX2_addPeg_21 ?_
        refine rr_icmp_le 27 dX2_addPeg_22 (by decide) (by omega) (by omega) (fun c_4 => ?_) (fun c_4 => ?_)
        · skip
          exfalso; omega
        · skip
          refine rr_iconst dX2_addPeg_25 ?_
          exact rr_iret dX2_addPeg_26 rfl rfl ⟨rfl, rfl⟩
set_option maxRecDepth 100000 in
set_option maxHeartbeats 4000000 in
theorem c_setWind_y (E : Ev) (d : Nat) (p pK pL pQ pW pX pY pS : Nat) (np nr : Nat) (wd : Nat → Int) (k u : Int) (rk : -2147483648 ≤ k ∧ k < 2147483648) (ru : -2147483648 ≤ u ∧ u < 2147483648) (hc : 1 ≤ k ∧ k ≤ 9 ∧ u ≤ 4) : SP E mX2_setWind (d + 0) 0 0 [.ref p, .int (zz k), .int (zz u)] [(p, ob 2 [.ref pK, .ref pL, .ref pQ, .ref pW, .ref pX, .ref pY, .ref pS, .int (zz ↑np), .int (zz ↑nr)]), (pW, aI E 10 wd)] (FP (some (.int (zz 1))) [(p, ob 2 [.ref pK, .ref pL, .ref pQ, .ref pW, .ref pX, .ref pY, .ref pS, .int (zz ↑np), .int (zz ↑nr)]), (pW, aI E 10 (updI wd k.toNat u))]) := by
  show RR E mX2_setWind (d + 0) 0 0 0 [(0, .ref p), (1, .int (zz k)), (2, .int (zz u))] [] [(p, ob 2 [.ref pK, .ref pL, .ref pQ, .ref pW, .ref pX, .ref pY, .ref pS, .int (zz ↑np), .int (zz ↑nr)]), (pW, aI E 10 wd)] (FP (some (.int (zz 1))) [(p, ob 2 [.ref pK, .ref pL, .ref pQ, .ref pW, .ref pX, .ref pY, .ref pS, .int (zz ↑np), .int (zz ↑nr)]), (pW, aI E 10 (updI wd k.toNat u))])
  refine rr_iload_n 1 dX2_setWind_0 rfl ?_
  refine rr_iconst dX2_setWind_1 ?_
  refine rr_icmp_lt 16 dX2_setWind_2 (by decide) (by omega) (by omega) (fun c_1 => ?_) (fun c_1 => ?_)
  · skip
    exfalso; omega
  · skip
    refine rr_iload_n 1 dX2_setWind_5 rfl ?_
    refine rr_bipush dX2_setWind_6 (by decide) ?_
    refine rr_icmp_gt 16 dX2_setWind_8 (by decide) (by omega) (by omega) (fun c_2 => ?_) (fun c_2 => ?_)
    · skip
      exfalso; omega
    · skip
      refine rr_iload_n 2 dX2_setWind_11 rfl ?_
      refine rr_iconst dX2_setWind_12 ?_
      refine rr_icmp_le 18 dX2_setWind_13 (by decide) (by omega) (by omega) (fun c_3 => ?_) (fun c_3 => ?_)
      · skip
        refine rr_aload_n 0 dX2_setWind_18 rfl ?_
        refine rr_get fX2_21 0 rfl rfl dX2_setWind_19 ?_
        refine rr_iload_n 1 dX2_setWind_22 rfl ?_
        refine rr_iload_n 2 dX2_setWind_23 rfl ?_
        refine rr_iast (ws2 := [(p, ob 2 [.ref pK, .ref pL, .ref pQ, .ref pW, .ref pX, .ref pY, .ref pS, .int (zz ↑np), .int (zz ↑nr)]), (pW, aI E 10 (updI wd k.toNat u))]) 1 k.toNat rfl (by omega) (by omega) (by omega) rfl dX2_setWind_24 ?_
        refine rr_iconst dX2_setWind_25 ?_
        exact rr_iret dX2_setWind_26 rfl rfl ⟨rfl, rfl⟩
      · skip
        exfalso; omega
set_option maxRecDepth 100000 in
set_option maxHeartbeats 4000000 in
theorem c_setWind_n (E : Ev) (d : Nat) (p pK pL pQ pW pX pY pS : Nat) (np nr : Nat) (wd : Nat → Int) (k u : Int) (rk : -2147483648 ≤ k ∧ k < 2147483648) (ru : -2147483648 ≤ u ∧ u < 2147483648) (hc : ¬ (1 ≤ k ∧ k ≤ 9 ∧ u ≤ 4)) : SP E mX2_setWind (d + 0) 0 0 [.ref p, .int (zz k), .int (zz u)] [(p, ob 2 [.ref pK, .ref pL, .ref pQ, .ref pW, .ref pX, .ref pY, .ref pS, .int (zz ↑np), .int (zz ↑nr)]), (pW, aI E 10 wd)] (FP (some (.int (zz 0))) [(p, ob 2 [.ref pK, .ref pL, .ref pQ, .ref pW, .ref pX, .ref pY, .ref pS, .int (zz ↑np), .int (zz ↑nr)]), (pW, aI E 10 wd)]) := by
  show RR E mX2_setWind (d + 0) 0 0 0 [(0, .ref p), (1, .int (zz k)), (2, .int (zz u))] [] [(p, ob 2 [.ref pK, .ref pL, .ref pQ, .ref pW, .ref pX, .ref pY, .ref pS, .int (zz ↑np), .int (zz ↑nr)]), (pW, aI E 10 wd)] (FP (some (.int (zz 0))) [(p, ob 2 [.ref pK, .ref pL, .ref pQ, .ref pW, .ref pX, .ref pY, .ref pS, .int (zz ↑np), .int (zz ↑nr)]), (pW, aI E 10 wd)])
  refine rr_iload_n 1 dX2_setWind_0 rfl ?_
  refine rr_iconst dX2_setWind_1 ?_
  refine rr_icmp_lt 16 dX2_setWind_2 (by decide) (by omega) (by omega) (fun c_1 => ?_) (fun c_1 => ?_)
  · skip
    refine rr_iconst dX2_setWind_16 ?_
    exact rr_iret dX2_setWind_17 rfl rfl ⟨rfl, rfl⟩
  · skip
    refine rr_iload_n 1 dX2_setWind_5 rfl ?_
    refine rr_bipush dX2_setWind_6 (by decide) ?_
    refine rr_icmp_gt 16 dX2_setWind_8 (by decide) (by omega) (by omega) (fun c_2 => ?_) (fun c_2 => ?_)
    · skip
      refine rr_iconst dX2_setWind_16 ?_
      exact rr_iret dX2_setWind_17 rfl rfl ⟨rfl, rfl⟩
    · skip
      refine rr_iload_n 2 dX2_setWind_11 rfl ?_
      refine rr_iconst dX2_setWind_12 ?_
      refine rr_icmp_le 18 dX2_setWind_13 (by decide) (by omega) (by omega) (fun c_3 => ?_) (fun c_3 => ?_)
      · skip
        exfalso; omega
      · skip
        refine rr_iconst dX2_setWind_16 ?_
        exact rr_iret dX2_setWind_17 rfl rfl ⟨rfl, rfl⟩
set_option maxRecDepth 100000 in
set_option maxHeartbeats 4000000 in
theorem c_addRoof_y (E : Ev) (d : Nat) (p pK pL pQ pW pX pY pS : Nat) (np nr : Nat) (rx ry : Nat → Int) (k u : Int) (hn : nr ≤ 6) (rk : -2147483648 ≤ k ∧ k < 2147483648) (ru : -2147483648 ≤ u ∧ u < 2147483648) (hc : nr < 6 ∧ k ≤ 9 ∧ u ≤ 9) : SP E mX2_addRoof (d + 0) 0 0 [.ref p, .int (zz k), .int (zz u)] [(p, ob 2 [.ref pK, .ref pL, .ref pQ, .ref pW, .ref pX, .ref pY, .ref pS, .int (zz ↑np), .int (zz ↑nr)]), (pX, aI E 6 rx), (pY, aI E 6 ry)] (FP (some (.int (zz 1))) [(p, ob 2 [.ref pK, .ref pL, .ref pQ, .ref pW, .ref pX, .ref pY, .ref pS, .int (zz ↑np), .int (zz (↑(nr + 1)))]), (pX, aI E 6 (updI rx nr k)), (pY, aI E 6 (updI ry nr u))]) := by
  show RR E mX2_addRoof (d + 0) 0 0 0 [(0, .ref p), (1, .int (zz k)), (2, .int (zz u))] [] [(p, ob 2 [.ref pK, .ref pL, .ref pQ, .ref pW, .ref pX, .ref pY, .ref pS, .int (zz ↑np), .int (zz ↑nr)]), (pX, aI E 6 rx), (pY, aI E 6 ry)] (FP (some (.int (zz 1))) [(p, ob 2 [.ref pK, .ref pL, .ref pQ, .ref pW, .ref pX, .ref pY, .ref pS, .int (zz ↑np), .int (zz (↑(nr + 1)))]), (pX, aI E 6 (updI rx nr k)), (pY, aI E 6 (updI ry nr u))])
  refine rr_aload_n 0 dX2_addRoof_0 rfl ?_
  refine rr_get fX2_41 0 rfl rfl dX2_addRoof_1 ?_
  refine rr_bipush dX2_addRoof_4 (by decide) ?_
  refine rr_icmp_ge 21 dX2_addRoof_6 (by decide) (by omega) (by omega) (fun c_1 => ?_) (fun c_1 => ?_)
  · skip
    exfalso; omega
  · skip
    refine rr_iload_n 1 dX2_addRoof_9 rfl ?_
    refine rr_bipush dX2_addRoof_10 (by decide) ?_
    refine rr_icmp_gt 21 dX2_addRoof_12 (by decide) (by omega) (by omega) (fun c_2 => ?_) (fun c_2 => ?_)
    · skip
      exfalso; omega
    · skip
      refine rr_iload_n 2 dX2_addRoof_15 rfl ?_
      refine rr_bipush dX2_addRoof_16 (by decide) ?_
      refine rr_icmp_le 23 dX2_addRoof_18 (by decide) (by omega) (by omega) (fun c_3 => ?_) (fun c_3 => ?_)
      · skip
        refine rr_aload_n 0 dX2_addRoof_23 rfl ?_
        refine rr_get fX2_24 0 rfl rfl dX2_addRoof_24 ?_
        refine rr_aload_n 0 dX2_addRoof_27 rfl ?_
        refine rr_get fX2_41 0 rfl rfl dX2_addRoof_28 ?_
        refine rr_iload_n 1 dX2_addRoof_31 rfl ?_
        refine rr_iast (ws2 := [(p, ob 2 [.ref pK, .ref pL, .ref pQ, .ref pW, .ref pX, .ref pY, .ref pS, .int (zz ↑np), .int (zz ↑nr)]), (pX, aI E 6 (updI rx nr k)), (pY, aI E 6 ry)]) 1 nr rfl rfl (by omega) (by omega) rfl dX2_addRoof_32 ?_
        refine rr_aload_n 0 dX2_addRoof_33 rfl ?_
        refine rr_get fX2_27 0 rfl rfl dX2_addRoof_34 ?_
        refine rr_aload_n 0 dX2_addRoof_37 rfl ?_
        refine rr_get fX2_41 0 rfl rfl dX2_addRoof_38 ?_
        refine rr_iload_n 2 dX2_addRoof_41 rfl ?_
        refine rr_iast (ws2 := [(p, ob 2 [.ref pK, .ref pL, .ref pQ, .ref pW, .ref pX, .ref pY, .ref pS, .int (zz ↑np), .int (zz ↑nr)]), (pX, aI E 6 (updI rx nr k)), (pY, aI E 6 (updI ry nr u))]) 2 nr rfl rfl (by omega) (by omega) rfl dX2_addRoof_42 ?_
        refine rr_aload_n 0 dX2_addRoof_43 rfl ?_
        refine rr_dup dX2_addRoof_44 rfl ?_
        refine rr_get fX2_41 0 rfl rfl dX2_addRoof_45 ?_
        refine rr_iconst dX2_addRoof_48 ?_
        refine rr_iadd dX2_addRoof_49 ?_
        refine rr_put (ws2 := [(p, ob 2 [.ref pK, .ref pL, .ref pQ, .ref pW, .ref pX, .ref pY, .ref pS, .int (zz ↑np), .int (zz (↑(nr + 1)))]), (pX, aI E 6 (updI rx nr k)), (pY, aI E 6 (updI ry nr u))]) fX2_41 0 rfl rfl rfl (Nat.le_of_ble_eq_true rfl) rfl dX2_addRoof_50 ?_
        refine rr_iconst dX2_addRoof_53 ?_
        exact rr_iret dX2_addRoof_54 rfl rfl ⟨rfl, rfl⟩
      · skip
        exfalso; omega
set_option maxRecDepth 100000 in
set_option maxHeartbeats 4000000 in
theorem c_addRoof_n (E : Ev) (d : Nat) (p pK pL pQ pW pX pY pS : Nat) (np nr : Nat) (rx ry : Nat → Int) (k u : Int) (hn : nr ≤ 6) (rk : -2147483648 ≤ k ∧ k < 2147483648) (ru : -2147483648 ≤ u ∧ u < 2147483648) (hc : ¬ (nr < 6 ∧ k ≤ 9 ∧ u ≤ 9)) : SP E mX2_addRoof (d + 0) 0 0 [.ref p, .int (zz k), .int (zz u)] [(p, ob 2 [.ref pK, .ref pL, .ref pQ, .ref pW, .ref pX, .ref pY, .ref pS, .int (zz ↑np), .int (zz ↑nr)]), (pX, aI E 6 rx), (pY, aI E 6 ry)] (FP (some (.int (zz 0))) [(p, ob 2 [.ref pK, .ref pL, .ref pQ, .ref pW, .ref pX, .ref pY, .ref pS, .int (zz ↑np), .int (zz ↑nr)]), (pX, aI E 6 rx), (pY, aI E 6 ry)]) := by
  show RR E mX2_addRoof (d + 0) 0 0 0 [(0, .ref p), (1, .int (zz k)), (2, .int (zz u))] [] [(p, ob 2 [.ref pK, .ref pL, .ref pQ, .ref pW, .ref pX, .ref pY, .ref pS, .int (zz ↑np), .int (zz ↑nr)]), (pX, aI E 6 rx), (pY, aI E 6 ry)] (FP (some (.int (zz 0))) [(p, ob 2 [.ref pK, .ref pL, .ref pQ, .ref pW, .ref pX, .ref pY, .ref pS, .int (zz ↑np), .int (zz ↑nr)]), (pX, aI E 6 rx), (pY, aI E 6 ry)])
  refine rr_aload_n 0 dX2_addRoof_0 rfl ?_
  refine rr_get fX2_41 0 rfl rfl dX2_addRoof_1 ?_
  refine rr_bipush dX2_addRoof_4 (by decide) ?_
  refine rr_icmp_ge 21 dX2_addRoof_6 (by decide) (by omega) (by omega) (fun c_1 => ?_) (fun c_1 => ?_)
  · skip
    refine rr_iconst dX2_addRoof_21 ?_
    exact rr_iret dX2_addRoof_22 rfl rfl ⟨rfl, rfl⟩
  · skip
    refine rr_iload_n 1 dX2_addRoof_9 rfl ?_
    refine rr_bipush dX2_addRoof_10 (by decide) ?_
    refine rr_icmp_gt 21 dX2_addRoof_12 (by decide) (by omega) (by omega) (fun c_2 => ?_) (fun c_2 => ?_)
    · skip
      refine rr_iconst dX2_addRoof_21 ?_
      exact rr_iret dX2_addRoof_22 rfl rfl ⟨rfl, rfl⟩
    · skip
      refine rr_iload_n 2 dX2_addRoof_15 rfl ?_
      refine rr_bipush dX2_addRoof_16 (by decide) ?_
      refine rr_icmp_le 23 dX2_addRoof_18 (by decide) (by omega) (by omega) (fun c_3 => ?_) (fun c_3 => ?_)
      · skip
        exfalso; omega
      · skip
        refine rr_iconst dX2_addRoof_21 ?_
        exact rr_iret dX2_addRoof_22 rfl rfl ⟨rfl, rfl⟩
set_option maxRecDepth 100000 in
set_option maxHeartbeats 4000000 in
theorem c_begin_y (E : Ev) (d : Nat) (p pK pL pQ pW pX pY pS : Nat) (np nr : Nat) (s : Nat → Int) (x y k c : Int) (rx : -2147483648 ≤ x ∧ x < 2147483648) (ry : -2147483648 ≤ y ∧ y < 2147483648) (rk : -2147483648 ≤ k ∧ k < 2147483648) (rc : -2147483648 ≤ c ∧ c < 2147483648) (hc : x ≤ 9 ∧ y ≤ 9 ∧ 1 ≤ k ∧ k ≤ 9 ∧ c ≤ 3) : SP E mX2_begin (d + 0) 0 0 [.ref p, .int (zz x), .int (zz y), .int (zz k), .int (zz c)] [(p, ob 2 [.ref pK, .ref pL, .ref pQ, .ref pW, .ref pX, .ref pY, .ref pS, .int (zz ↑np), .int (zz ↑nr)]), (pS, hO s)] (FP (some (.int (zz 1))) [(p, ob 2 [.ref pK, .ref pL, .ref pQ, .ref pW, .ref pX, .ref pY, .ref pS, .int (zz ↑np), .int (zz ↑nr)]), (pS, hO (updI (updI (updI (updI s 0 x) 1 y) 2 k) 3 c))]) := by
  show RR E mX2_begin (d + 0) 0 0 0 [(0, .ref p), (1, .int (zz x)), (2, .int (zz y)), (3, .int (zz k)), (4, .int (zz c))] [] [(p, ob 2 [.ref pK, .ref pL, .ref pQ, .ref pW, .ref pX, .ref pY, .ref pS, .int (zz ↑np), .int (zz ↑nr)]), (pS, hO s)] (FP (some (.int (zz 1))) [(p, ob 2 [.ref pK, .ref pL, .ref pQ, .ref pW, .ref pX, .ref pY, .ref pS, .int (zz ↑np), .int (zz ↑nr)]), (pS, hO (updI (updI (updI (updI s 0 x) 1 y) 2 k) 3 c))])
  refine rr_iload_n 1 dX2_begin_0 rfl ?_
  refine rr_bipush dX2_begin_1 (by decide) ?_
  refine rr_icmp_gt 29 dX2_begin_3 (by decide) (by omega) (by omega) (fun c_1 => ?_) (fun c_1 => ?_)
  · skip
    exfalso; omega
  · skip
    refine rr_iload_n 2 dX2_begin_6 rfl ?_
    refine rr_bipush dX2_begin_7 (by decide) ?_
    refine rr_icmp_gt 29 dX2_begin_9 (by decide) (by omega) (by omega) (fun c_2 => ?_) (fun c_2 => ?_)
    · skip
      exfalso; omega
    · skip
      refine rr_iload_n 3 dX2_begin_12 rfl ?_
      refine rr_iconst dX2_begin_13 ?_
      refine rr_icmp_lt 29 dX2_begin_14 (by decide) (by omega) (by omega) (fun c_3 => ?_) (fun c_3 => ?_)
      · skip
        exfalso; omega
      · skip
        refine rr_iload_n 3 dX2_begin_17 rfl ?_
        refine rr_bipush dX2_begin_18 (by decide) ?_
        refine rr_icmp_gt 29 dX2_begin_20 (by decide) (by omega) (by omega) (fun c_4 => ?_) (fun c_4 => ?_)
        · skip
          exfalso; omega
        · skip
          refine rr_iload 4 dX2_begin_23 rfl ?_
          refine rr_iconst dX2_begin_25 ?_
          refine rr_icmp_le 31 dX2_begin_26 (by decide) (by omega) (by omega) (fun c_5 => ?_) (fun c_5 => ?_)
          · skip
            refine rr_aload_n 0 dX2_begin_31 rfl ?_
            refine rr_get fX2_33 0 rfl rfl dX2_begin_32 ?_
            refine rr_iload_n 1 dX2_begin_35 rfl ?_
            refine rr_put (ws2 := [(p, ob 2 [.ref pK, .ref pL, .ref pQ, .ref pW, .ref pX, .ref pY, .ref pS, .int (zz ↑np), .int (zz ↑nr)]), (pS, hO (updI s 0 x))]) fX2_51 1 rfl rfl rfl (Nat.le_of_ble_eq_true rfl) rfl dX2_begin_36 ?_
            refine rr_aload_n 0 dX2_begin_39 rfl ?_
            refine rr_get fX2_33 0 rfl rfl dX2_begin_40 ?_
            refine rr_iload_n 2 dX2_begin_43 rfl ?_
            refine rr_put (ws2 := [(p, ob 2 [.ref pK, .ref pL, .ref pQ, .ref pW, .ref pX, .ref pY, .ref pS, .int (zz ↑np), .int (zz ↑nr)]), (pS, hO (updI (updI s 0 x) 1 y))]) fX2_54 1 rfl rfl rfl (Nat.le_of_ble_eq_true rfl) rfl dX2_begin_44 ?_
            refine rr_aload_n 0 dX2_begin_47 rfl ?_
            refine rr_get fX2_33 0 rfl rfl dX2_begin_48 ?_
            refine rr_iload_n 3 dX2_begin_51 rfl ?_
            refine rr_put (ws2 := [(p, ob 2 [.ref pK, .ref pL, .ref pQ, .ref pW, .ref pX, .ref pY, .ref pS, .int (zz ↑np), .int (zz ↑nr)]), (pS, hO (updI (updI (updI s 0 x) 1 y) 2 k))]) fX2_57 1 rfl rfl rfl (Nat.le_of_ble_eq_true rfl) rfl dX2_begin_52 ?_
            refine rr_aload_n 0 dX2_begin_55 rfl ?_
            refine rr_get fX2_33 0 rfl rfl dX2_begin_56 ?_
            refine rr_iload 4 dX2_begin_59 rfl ?_
            refine rr_put (ws2 := [(p, ob 2 [.ref pK, .ref pL, .ref pQ, .ref pW, .ref pX, .ref pY, .ref pS, .int (zz ↑np), .int (zz ↑nr)]), (pS, hO (updI (updI (updI (updI s 0 x) 1 y) 2 k) 3 c))]) fX2_60 1 rfl rfl rfl (Nat.le_of_ble_eq_true rfl) rfl dX2_begin_61 ?_
            refine rr_iconst dX2_begin_64 ?_
            exact rr_iret dX2_begin_65 rfl rfl ⟨rfl, rfl⟩
          · skip
            exfalso; omega
set_option maxRecDepth 100000 in
set_option maxHeartbeats 4000000 in
theorem c_begin_n (E : Ev) (d : Nat) (p pK pL pQ pW pX pY pS : Nat) (np nr : Nat) (s : Nat → Int) (x y k c : Int) (rx : -2147483648 ≤ x ∧ x < 2147483648) (ry : -2147483648 ≤ y ∧ y < 2147483648) (rk : -2147483648 ≤ k ∧ k < 2147483648) (rc : -2147483648 ≤ c ∧ c < 2147483648) (hc : ¬ (x ≤ 9 ∧ y ≤ 9 ∧ 1 ≤ k ∧ k ≤ 9 ∧ c ≤ 3)) : SP E mX2_begin (d + 0) 0 0 [.ref p, .int (zz x), .int (zz y), .int (zz k), .int (zz c)] [(p, ob 2 [.ref pK, .ref pL, .ref pQ, .ref pW, .ref pX, .ref pY, .ref pS, .int (zz ↑np), .int (zz ↑nr)]), (pS, hO s)] (FP (some (.int (zz 0))) [(p, ob 2 [.ref pK, .ref pL, .ref pQ, .ref pW, .ref pX, .ref pY, .ref pS, .int (zz ↑np), .int (zz ↑nr)]), (pS, hO s)]) := by
  show RR E mX2_begin (d + 0) 0 0 0 [(0, .ref p), (1, .int (zz x)), (2, .int (zz y)), (3, .int (zz k)), (4, .int (zz c))] [] [(p, ob 2 [.ref pK, .ref pL, .ref pQ, .ref pW, .ref pX, .ref pY, .ref pS, .int (zz ↑np), .int (zz ↑nr)]), (pS, hO s)] (FP (some (.int (zz 0))) [(p, ob 2 [.ref pK, .ref pL, .ref pQ, .ref pW, .ref pX, .ref pY, .ref pS, .int (zz ↑np), .int (zz ↑nr)]), (pS, hO s)])
  refine rr_iload_n 1 dX2_begin_0 rfl ?_
  refine rr_bipush dX2_begin_1 (by decide) ?_
  refine rr_icmp_gt 29 dX2_begin_3 (by decide) (by omega) (by omega) (fun c_1 => ?_) (fun c_1 => ?_)
  · skip
    refine rr_iconst dX2_begin_29 ?_
    exact rr_iret dX2_begin_30 rfl rfl ⟨rfl, rfl⟩
  · skip
    refine rr_iload_n 2 dX2_begin_6 rfl ?_
    refine rr_bipush dX2_begin_7 (by decide) ?_
    refine rr_icmp_gt 29 dX2_begin_9 (by decide) (by omega) (by omega) (fun c_2 => ?_) (fun c_2 => ?_)
    · skip
      refine rr_iconst dX2_begin_29 ?_
      exact rr_iret dX2_begin_30 rfl rfl ⟨rfl, rfl⟩
    · skip
      refine rr_iload_n 3 dX2_begin_12 rfl ?_
      refine rr_iconst dX2_begin_13 ?_
      refine rr_icmp_lt 29 dX2_begin_14 (by decide) (by omega) (by omega) (fun c_3 => ?_) (fun c_3 => ?_)
      · skip
        refine rr_iconst dX2_begin_29 ?_
        exact rr_iret dX2_begin_30 rfl rfl ⟨rfl, rfl⟩
      · skip
        refine rr_iload_n 3 dX2_begin_17 rfl ?_
        refine rr_bipush dX2_begin_18 (by decide) ?_
        refine rr_icmp_gt 29 dX2_begin_20 (by decide) (by omega) (by omega) (fun c_4 => ?_) (fun c_4 => ?_)
        · skip
          refine rr_iconst dX2_begin_29 ?_
          exact rr_iret dX2_begin_30 rfl rfl ⟨rfl, rfl⟩
        · skip
          refine rr_iload 4 dX2_begin_23 rfl ?_
          refine rr_iconst dX2_begin_25 ?_
          refine rr_icmp_le 31 dX2_begin_26 (by decide) (by omega) (by omega) (fun c_5 => ?_) (fun c_5 => ?_)
          · skip
            exfalso; omega
          · skip
            refine rr_iconst dX2_begin_29 ?_
            exact rr_iret dX2_begin_30 rfl rfl ⟨rfl, rfl⟩
set_option maxRecDepth 100000 in
set_option maxHeartbeats 4000000 in
theorem c_setRiders_y (E : Ev) (d : Nat) (p pK pL pQ pW pX pY pS : Nat) (np nr : Nat) (s : Nat → Int) (k : Int) (rk : -2147483648 ≤ k ∧ k < 2147483648) (hc : 1 ≤ k ∧ k ≤ 2) : SP E mX2_setRiders (d + 0) 0 0 [.ref p, .int (zz k)] [(p, ob 2 [.ref pK, .ref pL, .ref pQ, .ref pW, .ref pX, .ref pY, .ref pS, .int (zz ↑np), .int (zz ↑nr)]), (pS, hO s)] (FP (some (.int (zz 1))) [(p, ob 2 [.ref pK, .ref pL, .ref pQ, .ref pW, .ref pX, .ref pY, .ref pS, .int (zz ↑np), .int (zz ↑nr)]), (pS, hO (updI s 5 k))]) := by
  show RR E mX2_setRiders (d + 0) 0 0 0 [(0, .ref p), (1, .int (zz k))] [] [(p, ob 2 [.ref pK, .ref pL, .ref pQ, .ref pW, .ref pX, .ref pY, .ref pS, .int (zz ↑np), .int (zz ↑nr)]), (pS, hO s)] (FP (some (.int (zz 1))) [(p, ob 2 [.ref pK, .ref pL, .ref pQ, .ref pW, .ref pX, .ref pY, .ref pS, .int (zz ↑np), .int (zz ↑nr)]), (pS, hO (updI s 5 k))])
  refine rr_iload_n 1 dX2_setRiders_0 rfl ?_
  refine rr_iconst dX2_setRiders_1 ?_
  refine rr_icmp_lt 10 dX2_setRiders_2 (by decide) (by omega) (by omega) (fun c_1 => ?_) (fun c_1 => ?_)
  · skip
    exfalso; omega
  · skip
    refine rr_iload_n 1 dX2_setRiders_5 rfl ?_
    refine rr_iconst dX2_setRiders_6 ?_
    refine rr_icmp_le 12 dX2_setRiders_7 (by decide) (by omega) (by omega) (fun c_2 => ?_) (fun c_2 => ?_)
    · skip
      refine rr_aload_n 0 dX2_setRiders_12 rfl ?_
      refine rr_get fX2_33 0 rfl rfl dX2_setRiders_13 ?_
      refine rr_iload_n 1 dX2_setRiders_16 rfl ?_
      refine rr_put (ws2 := [(p, ob 2 [.ref pK, .ref pL, .ref pQ, .ref pW, .ref pX, .ref pY, .ref pS, .int (zz ↑np), .int (zz ↑nr)]), (pS, hO (updI s 5 k))]) fX2_48 1 rfl rfl rfl (Nat.le_of_ble_eq_true rfl) rfl dX2_setRiders_17 ?_
      refine rr_iconst dX2_setRiders_20 ?_
      exact rr_iret dX2_setRiders_21 rfl rfl ⟨rfl, rfl⟩
    · skip
      exfalso; omega
set_option maxRecDepth 100000 in
set_option maxHeartbeats 4000000 in
theorem c_setRiders_n (E : Ev) (d : Nat) (p pK pL pQ pW pX pY pS : Nat) (np nr : Nat) (s : Nat → Int) (k : Int) (rk : -2147483648 ≤ k ∧ k < 2147483648) (hc : ¬ (1 ≤ k ∧ k ≤ 2)) : SP E mX2_setRiders (d + 0) 0 0 [.ref p, .int (zz k)] [(p, ob 2 [.ref pK, .ref pL, .ref pQ, .ref pW, .ref pX, .ref pY, .ref pS, .int (zz ↑np), .int (zz ↑nr)]), (pS, hO s)] (FP (some (.int (zz 0))) [(p, ob 2 [.ref pK, .ref pL, .ref pQ, .ref pW, .ref pX, .ref pY, .ref pS, .int (zz ↑np), .int (zz ↑nr)]), (pS, hO s)]) := by
  show RR E mX2_setRiders (d + 0) 0 0 0 [(0, .ref p), (1, .int (zz k))] [] [(p, ob 2 [.ref pK, .ref pL, .ref pQ, .ref pW, .ref pX, .ref pY, .ref pS, .int (zz ↑np), .int (zz ↑nr)]), (pS, hO s)] (FP (some (.int (zz 0))) [(p, ob 2 [.ref pK, .ref pL, .ref pQ, .ref pW, .ref pX, .ref pY, .ref pS, .int (zz ↑np), .int (zz ↑nr)]), (pS, hO s)])
  refine rr_iload_n 1 dX2_setRiders_0 rfl ?_
  refine rr_iconst dX2_setRiders_1 ?_
  refine rr_icmp_lt 10 dX2_setRiders_2 (by decide) (by omega) (by omega) (fun c_1 => ?_) (fun c_1 => ?_)
  · skip
    refine rr_iconst dX2_setRiders_10 ?_
    exact rr_iret dX2_setRiders_11 rfl rfl ⟨rfl, rfl⟩
  · skip
    refine rr_iload_n 1 dX2_setRiders_5 rfl ?_
    refine rr_iconst dX2_setRiders_6 ?_
    refine rr_icmp_le 12 dX2_setRiders_7 (by decide) (by omega) (by omega) (fun c_2 => ?_) (fun c_2 => ?_)
    · skip
      exfalso; omega
    · skip
      refine rr_iconst dX2_setRiders_10 ?_
      exact rr_iret dX2_setRiders_11 rfl rfl ⟨rfl, rfl⟩
set_option maxRecDepth 100000 in
set_option maxHeartbeats 4000000 in
theorem c_clear (E : Ev) (d : Nat) (p pK pL pQ pW pX pY pS : Nat) (np nr : Nat) (wd s : Nat → Int) : SP E mX2_clear (d + 1) 0 0 [.ref p] [(p, ob 2 [.ref pK, .ref pL, .ref pQ, .ref pW, .ref pX, .ref pY, .ref pS, .int (zz ↑np), .int (zz ↑nr)]), (pW, aI E 10 wd), (pS, hO s)] (FP none [(p, ob 2 [.ref pK, .ref pL, .ref pQ, .ref pW, .ref pX, .ref pY, .ref pS, .int (zz 0), .int (zz 0)]), (pW, aI E 10 (fillI wd 10 4)), (pS, hO (updI (updI (updI (updI (updI s 0 5) 1 5) 2 3) 3 0) 5 1))]) := by
  show RR E mX2_clear (d + 1) 0 0 0 [(0, .ref p)] [] [(p, ob 2 [.ref pK, .ref pL, .ref pQ, .ref pW, .ref pX, .ref pY, .ref pS, .int (zz ↑np), .int (zz ↑nr)]), (pW, aI E 10 wd), (pS, hO s)] (FP none [(p, ob 2 [.ref pK, .ref pL, .ref pQ, .ref pW, .ref pX, .ref pY, .ref pS, .int (zz 0), .int (zz 0)]), (pW, aI E 10 (fillI wd 10 4)), (pS, hO (updI (updI (updI (updI (updI s 0 5) 1 5) 2 3) 3 0) 5 1))])
  have lp : ∀ (n i : Nat), i ≤ 10 → 10 < i + n → RR E mX2_clear (d + 1) 0 0 12 [(0, .ref p), (1, .int (zz ↑i))] [] [(p, ob 2 [.ref pK, .ref pL, .ref pQ, .ref pW, .ref pX, .ref pY, .ref pS, .int (zz 0), .int (zz 0)]), (pW, aI E 10 (fillI wd i 4)), (pS, hO s)] (FP none [(p, ob 2 [.ref pK, .ref pL, .ref pQ, .ref pW, .ref pX, .ref pY, .ref pS, .int (zz 0), .int (zz 0)]), (pW, aI E 10 (fillI wd 10 4)), (pS, hO (updI (updI (updI (updI (updI s 0 5) 1 5) 2 3) 3 0) 5 1))]) := by
    intro n
    induction n with
    | zero => intro i h1 h2; exfalso; omega
    | succ n ih =>
      intro i h1 h2
      refine rr_iload_n 1 dX2_clear_12 rfl ?_
      refine rr_bipush dX2_clear_13 (by decide) ?_
      refine rr_icmp_gt 31 dX2_clear_15 (by decide) (by omega) (by omega) (fun c_1 => ?_) (fun c_1 => ?_)
      · skip
        obtain rfl : i = 10 := by omega
        refine rr_aload_n 0 dX2_clear_31 rfl ?_
        refine rr_iconst dX2_clear_32 ?_
        refine rr_iconst dX2_clear_33 ?_
        refine rr_iconst dX2_clear_34 ?_
        refine rr_iconst dX2_clear_35 ?_
        refine rr_callFi (ws2 := [(p, ob 2 [.ref pK, .ref pL, .ref pQ, .ref pW, .ref pX, .ref pY, .ref pS, .int (zz 0), .int (zz 0)]), (pW, aI E 10 (fillI wd 10 4)), (pS, hO (updI (updI (updI (updI s 0 5) 1 5) 2 3) 3 0))]) (wr := [(pW, aI E 10 (fillI wd 10 4))]) (call_V (q0 := 0) kX2_44 (c_begin_y E (d + 0) p pK pL pQ pW pX pY pS 0 0 s 5 5 3 0 (by omega) (by omega) (by omega) (by omega) (by omega)) rfl rfl rfl rfl (by omega) (by decide) (Nat.le_of_ble_eq_true rfl) (Nat.le_of_ble_eq_true rfl) dX2_clear_36) [0, 2] [1] [1, 0, 2] rfl rfl rfl rfl rfl rfl rfl ?_
        refine rr_pop dX2_clear_39 rfl ?_
        refine rr_aload_n 0 dX2_clear_40 rfl ?_
        refine rr_get fX2_33 0 rfl rfl dX2_clear_41 ?_
        refine rr_iconst dX2_clear_44 ?_
        refine rr_put (ws2 := [(p, ob 2 [.ref pK, .ref pL, .ref pQ, .ref pW, .ref pX, .ref pY, .ref pS, .int (zz 0), .int (zz 0)]), (pW, aI E 10 (fillI wd 10 4)), (pS, hO (updI (updI (updI (updI (updI s 0 5) 1 5) 2 3) 3 0) 5 1))]) fX2_48 2 rfl rfl rfl (Nat.le_of_ble_eq_true rfl) rfl dX2_clear_45 ?_
        exact rr_ret dX2_clear_48 rfl ⟨rfl, rfl⟩
      · skip
        refine rr_aload_n 0 dX2_clear_18 rfl ?_
        refine rr_get fX2_21 0 rfl rfl dX2_clear_19 ?_
        refine rr_iload_n 1 dX2_clear_22 rfl ?_
        refine rr_iconst dX2_clear_23 ?_
        refine rr_iast (ws2 := [(p, ob 2 [.ref pK, .ref pL, .ref pQ, .ref pW, .ref pX, .ref pY, .ref pS, .int (zz 0), .int (zz 0)]), (pW, aI E 10 (updI (fillI wd i 4) i 4)), (pS, hO s)]) 1 i rfl rfl (by omega) (by omega) rfl dX2_clear_24 ?_
        refine rr_iinc (lv2 := [(0, .ref p), (1, .int (zz (↑(i + 1))))]) 1 dX2_clear_25 rfl (by decide) rfl ?_
        refine rr_goto 12 dX2_clear_28 (by decide) ?_
        refine RR.eq (ws2 := [(p, ob 2 [.ref pK, .ref pL, .ref pQ, .ref pW, .ref pX, .ref pY, .ref pS, .int (zz 0), .int (zz 0)]), (pW, aI E 10 (fillI wd (i + 1) 4)), (pS, hO s)]) rfl rfl rfl (by rw [fillI_succ]) ?_
        exact ih (i + 1) (by omega) (by omega)
  refine rr_aload_n 0 dX2_clear_0 rfl ?_
  refine rr_iconst dX2_clear_1 ?_
  refine rr_put (ws2 := [(p, ob 2 [.ref pK, .ref pL, .ref pQ, .ref pW, .ref pX, .ref pY, .ref pS, .int (zz 0), .int (zz ↑nr)]), (pW, aI E 10 wd), (pS, hO s)]) fX2_37 0 rfl rfl rfl (Nat.le_of_ble_eq_true rfl) rfl dX2_clear_2 ?_
  refine rr_aload_n 0 dX2_clear_5 rfl ?_
  refine rr_iconst dX2_clear_6 ?_
  refine rr_put (ws2 := [(p, ob 2 [.ref pK, .ref pL, .ref pQ, .ref pW, .ref pX, .ref pY, .ref pS, .int (zz 0), .int (zz 0)]), (pW, aI E 10 wd), (pS, hO s)]) fX2_41 0 rfl rfl rfl (Nat.le_of_ble_eq_true rfl) rfl dX2_clear_7 ?_
  refine rr_iconst dX2_clear_10 ?_
  refine rr_istore_n (lv2 := [(0, .ref p), (1, .int (zz 0))]) dX2_clear_11 (by decide) rfl ?_
  refine RR.eq (ws2 := [(p, ob 2 [.ref pK, .ref pL, .ref pQ, .ref pW, .ref pX, .ref pY, .ref pS, .int (zz 0), .int (zz 0)]), (pW, aI E 10 (fillI wd 0 4)), (pS, hO s)]) rfl rfl rfl (by rw [fillI_0]) ?_
  exact lp 11 0 (by omega) (by omega)
set_option maxRecDepth 100000 in
set_option maxHeartbeats 4000000 in
theorem c_firstDoubling (E : Ev) (d : Nat) (p pK pL pQ pW pX pY pS : Nat) (np nr : Nat) (kd lf qt wd : Nat → Int) (hp : pOK np kd lf qt wd) : SP E mX2_firstDoubling (d + 0) 0 0 [.ref p] [(p, ob 2 [.ref pK, .ref pL, .ref pQ, .ref pW, .ref pX, .ref pY, .ref pS, .int (zz ↑np), .int (zz ↑nr)]), (pK, aI E 7 kd)] (FP (some (.int (zz (fdF kd np 0)))) [(p, ob 2 [.ref pK, .ref pL, .ref pQ, .ref pW, .ref pX, .ref pY, .ref pS, .int (zz ↑np), .int (zz ↑nr)]), (pK, aI E 7 kd)]) := by
  show RR E mX2_firstDoubling (d + 0) 0 0 0 [(0, .ref p)] [] [(p, ob 2 [.ref pK, .ref pL, .ref pQ, .ref pW, .ref pX, .ref pY, .ref pS, .int (zz ↑np), .int (zz ↑nr)]), (pK, aI E 7 kd)] (FP (some (.int (zz (fdF kd np 0)))) [(p, ob 2 [.ref pK, .ref pL, .ref pQ, .ref pW, .ref pX, .ref pY, .ref pS, .int (zz ↑np), .int (zz ↑nr)]), (pK, aI E 7 kd)])
  have hn := hp.1
  have lp : ∀ (n i : Nat), i + n = np → fdF kd n i = fdF kd np 0 → RR E mX2_firstDoubling (d + 0) 0 0 2 [(0, .ref p), (1, .int (zz ↑i))] [] [(p, ob 2 [.ref pK, .ref pL, .ref pQ, .ref pW, .ref pX, .ref pY, .ref pS, .int (zz ↑np), .int (zz ↑nr)]), (pK, aI E 7 kd)] (FP (some (.int (zz (fdF kd np 0)))) [(p, ob 2 [.ref pK, .ref pL, .ref pQ, .ref pW, .ref pX, .ref pY, .ref pS, .int (zz ↑np), .int (zz ↑nr)]), (pK, aI E 7 kd)]) := by
    intro n
    induction n with
    | zero =>
      intro i h1 h2
      refine rr_iload_n 1 dX2_firstDoubling_2 rfl ?_
      refine rr_aload_n 0 dX2_firstDoubling_3 rfl ?_
      refine rr_get fX2_37 0 rfl rfl dX2_firstDoubling_4 ?_
      refine rr_icmp_ge 28 dX2_firstDoubling_7 (by decide) (by omega) (by omega) (fun c_1 => ?_) (fun c_1 => ?_)
      · skip
        refine rr_bipush dX2_firstDoubling_28 (by decide) ?_
        exact rr_iret dX2_firstDoubling_30 rfl rfl ⟨congrArg (fun z => some (Value.int (zz z))) (by exact h2), rfl⟩
      · skip
        exfalso; omega
    | succ n ih =>
      intro i h1 h2
      have hk := (hp.2.1 i (by omega)).1
      rw [fdF] at h2
      refine rr_iload_n 1 dX2_firstDoubling_2 rfl ?_
      refine rr_aload_n 0 dX2_firstDoubling_3 rfl ?_
      refine rr_get fX2_37 0 rfl rfl dX2_firstDoubling_4 ?_
      refine rr_icmp_ge 28 dX2_firstDoubling_7 (by decide) (by omega) (by omega) (fun c_2 => ?_) (fun c_2 => ?_)
      · skip
        exfalso; omega
      · skip
        refine rr_aload_n 0 dX2_firstDoubling_10 rfl ?_
        refine rr_get fX2_9 0 rfl rfl dX2_firstDoubling_11 ?_
        refine rr_iload_n 1 dX2_firstDoubling_14 rfl ?_
        refine rr_iald 1 i rfl rfl (by omega) (by omega) dX2_firstDoubling_15 ?_
        refine rr_iconst dX2_firstDoubling_16 ?_
        refine rr_icmp_ne 22 dX2_firstDoubling_17 (by decide) (by omega) (by omega) (fun c_3 => ?_) (fun c_3 => ?_)
        · skip
          refine rr_iinc (lv2 := [(0, .ref p), (1, .int (zz (↑(i + 1))))]) 1 dX2_firstDoubling_22 rfl (by decide) rfl ?_
          refine rr_goto 2 dX2_firstDoubling_25 (by decide) ?_
          exact ih (i + 1) (by omega) (by rw [if_neg (by omega)] at h2; exact h2)
        · skip
          refine rr_iload_n 1 dX2_firstDoubling_20 rfl ?_
          exact rr_iret dX2_firstDoubling_21 rfl rfl ⟨congrArg (fun z => some (Value.int (zz z))) (by rw [if_pos (by omega)] at h2; exact h2), rfl⟩
  refine rr_iconst dX2_firstDoubling_0 ?_
  refine rr_istore_n (lv2 := [(0, .ref p), (1, .int (zz 0))]) dX2_firstDoubling_1 (by decide) rfl ?_
  exact lp np 0 (by omega) rfl
