set_option maxRecDepth 100000 in
set_option maxHeartbeats 4000000 in
theorem c_hasPeg (E : Ev) (d : Nat) (p pK pL pQ pW pX pY pS : Nat) (np nr : Nat) (i : Int) (hn : np ≤ 7) (hi : -2147483648 ≤ i ∧ i < 2147483648) : SP E mX2_hasPeg (d + 0) 0 0 [.ref p, .int (zz i)] [(p, ob 2 [.ref pK, .ref pL, .ref pQ, .ref pW, .ref pX, .ref pY, .ref pS, .int (zz ↑np), .int (zz ↑nr)])] (FP (some (.int (zz (bI (decide (0 ≤ i ∧ i < (np : Int))))))) [(p, ob 2 [.ref pK, .ref pL, .ref pQ, .ref pW, .ref pX, .ref pY, .ref pS, .int (zz ↑np), .int (zz ↑nr)])]) := by
  show RR E mX2_hasPeg (d + 0) 0 0 0 [(0, .ref p), (1, .int (zz i))] [] [(p, ob 2 [.ref pK, .ref pL, .ref pQ, .ref pW, .ref pX, .ref pY, .ref pS, .int (zz ↑np), .int (zz ↑nr)])] (FP (some (.int (zz (bI (decide (0 ≤ i ∧ i < (np : Int))))))) [(p, ob 2 [.ref pK, .ref pL, .ref pQ, .ref pW, .ref pX, .ref pY, .ref pS, .int (zz ↑np), .int (zz ↑nr)])])
  refine rr_iload_n 1 dX2_hasPeg_0 rfl ?_
  refine rr_if_lt 22 dX2_hasPeg_1 (by decide) (by omega) (fun c_1 => ?_) (fun c_1 => ?_)
  · skip
    refine rr_iconst dX2_hasPeg_22 ?_
    exact rr_iret dX2_hasPeg_23 rfl rfl ⟨congrArg (fun z => some (Value.int (zz z))) (by unfold bI; split <;> simp_all <;> omega), rfl⟩
  · skip
    refine rr_iload_n 1 dX2_hasPeg_4 rfl ?_
    refine rr_aload_n 0 dX2_hasPeg_5 rfl ?_
    refine rr_get fX2_37 0 rfl rfl dX2_hasPeg_6 ?_
    refine rr_icmp_ge 22 dX2_hasPeg_9 (by decide) (by omega) (by omega) (fun c_2 => ?_) (fun c_2 => ?_)
    · skip
      refine rr_iconst dX2_hasPeg_22 ?_
      exact rr_iret dX2_hasPeg_23 rfl rfl ⟨congrArg (fun z => some (Value.int (zz z))) (by unfold bI; split <;> simp_all <;> omega), rfl⟩
    · skip
      refine rr_iload_n 1 dX2_hasPeg_12 rfl ?_
      refine rr_bipush dX2_hasPeg_13 (by decide) ?_
      refine rr_icmp_ge 22 dX2_hasPeg_15 (by decide) (by omega) (by omega) (fun c_3 => ?_) (fun c_3 => ?_)
      · skip
        refine rr_iconst dX2_hasPeg_22 ?_
        exact rr_iret dX2_hasPeg_23 rfl rfl ⟨congrArg (fun z => some (Value.int (zz z))) (by unfold bI; split <;> simp_all <;> omega), rfl⟩
      · skip
        refine rr_iconst dX2_hasPeg_18 ?_
        refine rr_goto 23 dX2_hasPeg_19 (by decide) ?_
        exact rr_iret dX2_hasPeg_23 rfl rfl ⟨congrArg (fun z => some (Value.int (zz z))) (by unfold bI; split <;> simp_all <;> omega), rfl⟩
set_option maxRecDepth 100000 in
set_option maxHeartbeats 4000000 in
theorem c_hasRoof (E : Ev) (d : Nat) (p pK pL pQ pW pX pY pS : Nat) (np nr : Nat) (i : Int) (hn : nr ≤ 6) (hi : -2147483648 ≤ i ∧ i < 2147483648) : SP E mX2_hasRoof (d + 0) 0 0 [.ref p, .int (zz i)] [(p, ob 2 [.ref pK, .ref pL, .ref pQ, .ref pW, .ref pX, .ref pY, .ref pS, .int (zz ↑np), .int (zz ↑nr)])] (FP (some (.int (zz (bI (decide (0 ≤ i ∧ i < (nr : Int))))))) [(p, ob 2 [.ref pK, .ref pL, .ref pQ, .ref pW, .ref pX, .ref pY, .ref pS, .int (zz ↑np), .int (zz ↑nr)])]) := by
  show RR E mX2_hasRoof (d + 0) 0 0 0 [(0, .ref p), (1, .int (zz i))] [] [(p, ob 2 [.ref pK, .ref pL, .ref pQ, .ref pW, .ref pX, .ref pY, .ref pS, .int (zz ↑np), .int (zz ↑nr)])] (FP (some (.int (zz (bI (decide (0 ≤ i ∧ i < (nr : Int))))))) [(p, ob 2 [.ref pK, .ref pL, .ref pQ, .ref pW, .ref pX, .ref pY, .ref pS, .int (zz ↑np), .int (zz ↑nr)])])
  refine rr_iload_n 1 dX2_hasRoof_0 rfl ?_
  refine rr_if_lt 22 dX2_hasRoof_1 (by decide) (by omega) (fun c_1 => ?_) (fun c_1 => ?_)
  · skip
    refine rr_iconst dX2_hasRoof_22 ?_
    exact rr_iret dX2_hasRoof_23 rfl rfl ⟨congrArg (fun z => some (Value.int (zz z))) (by unfold bI; split <;> simp_all <;> omega), rfl⟩
  · skip
    refine rr_iload_n 1 dX2_hasRoof_4 rfl ?_
    refine rr_aload_n 0 dX2_hasRoof_5 rfl ?_
    refine rr_get fX2_41 0 rfl rfl dX2_hasRoof_6 ?_
    refine rr_icmp_ge 22 dX2_hasRoof_9 (by decide) (by omega) (by omega) (fun c_2 => ?_) (fun c_2 => ?_)
    · skip
      refine rr_iconst dX2_hasRoof_22 ?_
      exact rr_iret dX2_hasRoof_23 rfl rfl ⟨congrArg (fun z => some (Value.int (zz z))) (by unfold bI; split <;> simp_all <;> omega), rfl⟩
    · skip
      refine rr_iload_n 1 dX2_hasRoof_12 rfl ?_
      refine rr_bipush dX2_hasRoof_13 (by decide) ?_
      refine rr_icmp_ge 22 dX2_hasRoof_15 (by decide) (by omega) (by omega) (fun c_3 => ?_) (fun c_3 => ?_)
      · skip
        refine rr_iconst dX2_hasRoof_22 ?_
        exact rr_iret dX2_hasRoof_23 rfl rfl ⟨congrArg (fun z => some (Value.int (zz z))) (by unfold bI; split <;> simp_all <;> omega), rfl⟩
      · skip
        refine rr_iconst dX2_hasRoof_18 ?_
        refine rr_goto 23 dX2_hasRoof_19 (by decide) ?_
        exact rr_iret dX2_hasRoof_23 rfl rfl ⟨congrArg (fun z => some (Value.int (zz z))) (by unfold bI; split <;> simp_all <;> omega), rfl⟩
set_option maxRecDepth 100000 in
set_option maxHeartbeats 4000000 in
theorem c_windAt (E : Ev) (d : Nat) (p pK pL pQ pW pX pY pS : Nat) (np nr : Nat) (wd : Nat → Int) (i : Int) (hi : -2147483648 ≤ i ∧ i < 2147483648) : SP E mX2_windAt (d + 0) 0 0 [.ref p, .int (zz i)] [(p, ob 2 [.ref pK, .ref pL, .ref pQ, .ref pW, .ref pX, .ref pY, .ref pS, .int (zz ↑np), .int (zz ↑nr)]), (pW, aI E 10 wd)] (FP (some (.int (zz (windF wd i)))) [(p, ob 2 [.ref pK, .ref pL, .ref pQ, .ref pW, .ref pX, .ref pY, .ref pS, .int (zz ↑np), .int (zz ↑nr)]), (pW, aI E 10 wd)]) := by
  show RR E mX2_windAt (d + 0) 0 0 0 [(0, .ref p), (1, .int (zz i))] [] [(p, ob 2 [.ref pK, .ref pL, .ref pQ, .ref pW, .ref pX, .ref pY, .ref pS, .int (zz ↑np), .int (zz ↑nr)]), (pW, aI E 10 wd)] (FP (some (.int (zz (windF wd i)))) [(p, ob 2 [.ref pK, .ref pL, .ref pQ, .ref pW, .ref pX, .ref pY, .ref pS, .int (zz ↑np), .int (zz ↑nr)]), (pW, aI E 10 wd)])
  refine rr_iload_n 1 dX2_windAt_0 rfl ?_
  refine rr_iconst dX2_windAt_1 ?_
  refine rr_icmp_lt 11 dX2_windAt_2 (by decide) (by omega) (by omega) (fun c_1 => ?_) (fun c_1 => ?_)
  · skip
    refine rr_iconst dX2_windAt_11 ?_
    refine rr_goto 21 dX2_windAt_12 (by decide) ?_
    exact rr_iret dX2_windAt_21 rfl rfl ⟨congrArg (fun z => some (Value.int (zz z))) (by unfold windF; split <;> first | rfl | omega), rfl⟩
  · skip
    refine rr_iload_n 1 dX2_windAt_5 rfl ?_
    refine rr_bipush dX2_windAt_6 (by decide) ?_
    refine rr_icmp_le 15 dX2_windAt_8 (by decide) (by omega) (by omega) (fun c_2 => ?_) (fun c_2 => ?_)
    · skip
      refine rr_aload_n 0 dX2_windAt_15 rfl ?_
      refine rr_get fX2_21 0 rfl rfl dX2_windAt_16 ?_
      refine rr_iload_n 1 dX2_windAt_19 rfl ?_
      refine rr_iald 1 ((i).toNat) rfl (by omega) (by omega) (by omega) dX2_windAt_20 ?_
      exact rr_iret dX2_windAt_21 rfl rfl ⟨congrArg (fun z => some (Value.int (zz z))) (by unfold windF; split <;> first | rfl | omega), rfl⟩
    · skip
      refine rr_iconst dX2_windAt_11 ?_
      refine rr_goto 21 dX2_windAt_12 (by decide) ?_
      exact rr_iret dX2_windAt_21 rfl rfl ⟨congrArg (fun z => some (Value.int (zz z))) (by unfold windF; split <;> first | rfl | omega), rfl⟩
set_option maxRecDepth 100000 in
set_option maxHeartbeats 4000000 in
theorem c_isRoofAt (E : Ev) (d : Nat) (p pK pL pQ pW pX pY pS : Nat) (np nr : Nat) (rx ry : Nat → Int) (x y : Int) (hr : rOK nr rx ry) (hx : -2147483648 ≤ x ∧ x < 2147483648) (hy : -2147483648 ≤ y ∧ y < 2147483648) : SP E mX2_isRoofAt (d + 0) 0 0 [.ref p, .int (zz x), .int (zz y)] [(p, ob 2 [.ref pK, .ref pL, .ref pQ, .ref pW, .ref pX, .ref pY, .ref pS, .int (zz ↑np), .int (zz ↑nr)]), (pX, aI E 6 rx), (pY, aI E 6 ry)] (FP (some (.int (zz (bI (anyTo (roofF rx ry x y) nr))))) [(p, ob 2 [.ref pK, .ref pL, .ref pQ, .ref pW, .ref pX, .ref pY, .ref pS, .int (zz ↑np), .int (zz ↑nr)]), (pX, aI E 6 rx), (pY, aI E 6 ry)]) := by
  have hr1 := hr.1
  show RR E mX2_isRoofAt (d + 0) 0 0 0 [(0, .ref p), (1, .int (zz x)), (2, .int (zz y))] [] [(p, ob 2 [.ref pK, .ref pL, .ref pQ, .ref pW, .ref pX, .ref pY, .ref pS, .int (zz ↑np), .int (zz ↑nr)]), (pX, aI E 6 rx), (pY, aI E 6 ry)] (FP (some (.int (zz (bI (anyTo (roofF rx ry x y) nr))))) [(p, ob 2 [.ref pK, .ref pL, .ref pQ, .ref pW, .ref pX, .ref pY, .ref pS, .int (zz ↑np), .int (zz ↑nr)]), (pX, aI E 6 rx), (pY, aI E 6 ry)])
  have lp : ∀ (n r : Nat), r ≤ nr → nr < r + n → (∀ k, k < r → roofF rx ry x y k = false) → RR E mX2_isRoofAt (d + 0) 0 0 2 [(0, .ref p), (1, .int (zz x)), (2, .int (zz y)), (3, .int (zz ↑r))] [] [(p, ob 2 [.ref pK, .ref pL, .ref pQ, .ref pW, .ref pX, .ref pY, .ref pS, .int (zz ↑np), .int (zz ↑nr)]), (pX, aI E 6 rx), (pY, aI E 6 ry)] (FP (some (.int (zz (bI (anyTo (roofF rx ry x y) nr))))) [(p, ob 2 [.ref pK, .ref pL, .ref pQ, .ref pW, .ref pX, .ref pY, .ref pS, .int (zz ↑np), .int (zz ↑nr)]), (pX, aI E 6 rx), (pY, aI E 6 ry)]) := by
    intro n
    induction n with
    | zero => intro r h1 h2; exfalso; omega
    | succ n ih =>
      intro r h1 h2 h3
      refine rr_iload_n 3 dX2_isRoofAt_2 rfl ?_
      refine rr_aload_n 0 dX2_isRoofAt_3 rfl ?_
      refine rr_get fX2_41 0 rfl rfl dX2_isRoofAt_4 ?_
      refine rr_icmp_ge 38 dX2_isRoofAt_7 (by decide) (by omega) (by omega) (fun c_1 => ?_) (fun c_1 => ?_)
      · skip
        refine rr_iconst dX2_isRoofAt_38 ?_
        exact rr_iret dX2_isRoofAt_39 rfl rfl ⟨congrArg (fun z => some (Value.int (zz z))) (by rw [anyTo_no (fun k hk => h3 k (by omega))]; rfl), rfl⟩
      · skip
        refine rr_aload_n 0 dX2_isRoofAt_10 rfl ?_
        refine rr_get fX2_24 0 rfl rfl dX2_isRoofAt_11 ?_
        refine rr_iload_n 3 dX2_isRoofAt_14 rfl ?_
        refine rr_iald 1 r rfl rfl (by omega) (by omega) dX2_isRoofAt_15 ?_
        refine rr_iload_n 1 dX2_isRoofAt_16 rfl ?_
        refine rr_icmp_ne 32 dX2_isRoofAt_17 (by decide) (by have := hr.2 r (by omega); omega) (by have := hr.2 r (by omega); omega) (fun c_2 => ?_) (fun c_2 => ?_)
        · skip
          refine rr_iinc (lv2 := [(0, .ref p), (1, .int (zz x)), (2, .int (zz y)), (3, .int (zz (↑r + 1)))]) 3 dX2_isRoofAt_32 rfl (by decide) rfl ?_
          refine rr_goto 2 dX2_isRoofAt_35 (by decide) ?_
          exact ih (r + 1) (by omega) (by omega) (fun k hk => by rcases Nat.lt_or_ge k r with q | q; exact h3 k q; rw [show k = r by omega]; unfold roofF; simp; omega)
        · skip
          refine rr_aload_n 0 dX2_isRoofAt_20 rfl ?_
          refine rr_get fX2_27 0 rfl rfl dX2_isRoofAt_21 ?_
          refine rr_iload_n 3 dX2_isRoofAt_24 rfl ?_
          refine rr_iald 2 r rfl rfl (by omega) (by omega) dX2_isRoofAt_25 ?_
          refine rr_iload_n 2 dX2_isRoofAt_26 rfl ?_
          refine rr_icmp_ne 32 dX2_isRoofAt_27 (by decide) (by have := hr.2 r (by omega); omega) (by have := hr.2 r (by omega); omega) (fun c_3 => ?_) (fun c_3 => ?_)
          · skip
            refine rr_iinc (lv2 := [(0, .ref p), (1, .int (zz x)), (2, .int (zz y)), (3, .int (zz (↑r + 1)))]) 3 dX2_isRoofAt_32 rfl (by decide) rfl ?_
            refine rr_goto 2 dX2_isRoofAt_35 (by decide) ?_
            exact ih (r + 1) (by omega) (by omega) (fun k hk => by rcases Nat.lt_or_ge k r with q | q; exact h3 k q; rw [show k = r by omega]; unfold roofF; simp; omega)
          · skip
            refine rr_iconst dX2_isRoofAt_30 ?_
            exact rr_iret dX2_isRoofAt_31 rfl rfl ⟨congrArg (fun z => some (Value.int (zz z))) (by rw [anyTo_yes (k := r) (by unfold roofF; simp; omega) (by omega)]; rfl), rfl⟩
  refine rr_iconst dX2_isRoofAt_0 ?_
  refine rr_istore_n (lv2 := [(0, .ref p), (1, .int (zz x)), (2, .int (zz y)), (3, .int (zz 0))]) dX2_isRoofAt_1 (by decide) rfl ?_
  exact lp (nr + 1) 0 (by omega) (by omega) (fun k hk => absurd hk (Nat.not_lt_zero k))
set_option maxRecDepth 100000 in
set_option maxHeartbeats 4000000 in
theorem c_hasLanded (E : Ev) (d : Nat) (p pK pL pQ pW pX pY pS : Nat) (np nr : Nat) (a : Nat) (rx ry h : Nat → Int) (hr : rOK nr rx ry) (ho : hOK h) : SP E mX2_hasLanded (d + 1) 0 0 [.ref p, .ref a] [(p, ob 2 [.ref pK, .ref pL, .ref pQ, .ref pW, .ref pX, .ref pY, .ref pS, .int (zz ↑np), .int (zz ↑nr)]), (pX, aI E 6 rx), (pY, aI E 6 ry), (a, hO h)] (FP (some (.int (zz (bI (decide (h 2 = 0) && anyTo (roofF rx ry (h 0) (h 1)) nr))))) [(p, ob 2 [.ref pK, .ref pL, .ref pQ, .ref pW, .ref pX, .ref pY, .ref pS, .int (zz ↑np), .int (zz ↑nr)]), (pX, aI E 6 rx), (pY, aI E 6 ry), (a, hO h)]) := by
  show RR E mX2_hasLanded (d + 1) 0 0 0 [(0, .ref p), (1, .ref a)] [] [(p, ob 2 [.ref pK, .ref pL, .ref pQ, .ref pW, .ref pX, .ref pY, .ref pS, .int (zz ↑np), .int (zz ↑nr)]), (pX, aI E 6 rx), (pY, aI E 6 ry), (a, hO h)] (FP (some (.int (zz (bI (decide (h 2 = 0) && anyTo (roofF rx ry (h 0) (h 1)) nr))))) [(p, ob 2 [.ref pK, .ref pL, .ref pQ, .ref pW, .ref pX, .ref pY, .ref pS, .int (zz ↑np), .int (zz ↑nr)]), (pX, aI E 6 rx), (pY, aI E 6 ry), (a, hO h)])
  obtain ⟨o0, o1, o2, o3, o5, o6⟩ := id ho
  refine rr_aload_n 1 dX2_hasLanded_0 rfl ?_
  refine rr_callFi (ws2 := [(p, ob 2 [.ref pK, .ref pL, .ref pQ, .ref pW, .ref pX, .ref pY, .ref pS, .int (zz ↑np), .int (zz ↑nr)]), (pX, aI E 6 rx), (pY, aI E 6 ry), (a, hO h)]) (wr := [(p, ob 2 [.ref pK, .ref pL, .ref pQ, .ref pW, .ref pX, .ref pY, .ref pS, .int (zz ↑np), .int (zz ↑nr)]), (pX, aI E 6 rx), (pY, aI E 6 ry)]) (call_V (q0 := 0) kX2_63 (c_isDown E (d + 0) a h (by omega)) rfl rfl rfl rfl (by omega) (by decide) (Nat.le_of_ble_eq_true rfl) (Nat.le_of_ble_eq_true rfl) dX2_hasLanded_1) [3] [0, 1, 2] [0, 1, 2, 3] rfl rfl rfl rfl rfl rfl rfl ?_
  refine rr_if_eqD 26 dX2_hasLanded_4 (by decide) (fun c_1 => ?_) (fun c_1 => ?_)
  · skip
    refine rr_iconst dX2_hasLanded_26 ?_
    exact rr_iret dX2_hasLanded_27 rfl rfl ⟨congrArg (fun z => some (Value.int (zz z))) (by simp [bI, *]), rfl⟩
  · skip
    refine rr_aload_n 0 dX2_hasLanded_7 rfl ?_
    refine rr_aload_n 1 dX2_hasLanded_8 rfl ?_
    refine rr_get fX2_51 3 rfl rfl dX2_hasLanded_9 ?_
    refine rr_aload_n 1 dX2_hasLanded_12 rfl ?_
    refine rr_get fX2_54 3 rfl rfl dX2_hasLanded_13 ?_
    refine rr_callFi (ws2 := [(p, ob 2 [.ref pK, .ref pL, .ref pQ, .ref pW, .ref pX, .ref pY, .ref pS, .int (zz ↑np), .int (zz ↑nr)]), (pX, aI E 6 rx), (pY, aI E 6 ry), (a, hO h)]) (wr := [(a, hO h)]) (call_V (q0 := 0) kX2_67 (c_isRoofAt E (d + 0) p pK pL pQ pW pX pY pS np nr rx ry (h 0) (h 1) hr (by omega) (by omega)) rfl rfl rfl rfl (by omega) (by decide) (Nat.le_of_ble_eq_true rfl) (Nat.le_of_ble_eq_true rfl) dX2_hasLanded_16) [0, 1, 2] [3] [1, 2, 3, 0] rfl rfl rfl rfl rfl rfl rfl ?_
    refine rr_if_eqB 26 dX2_hasLanded_19 (by decide) (fun c_2 => ?_) (fun c_2 => ?_)
    · skip
      refine rr_iconst dX2_hasLanded_26 ?_
      exact rr_iret dX2_hasLanded_27 rfl rfl ⟨congrArg (fun z => some (Value.int (zz z))) (by simp [bI, *]), rfl⟩
    · skip
      refine rr_iconst dX2_hasLanded_22 ?_
      refine rr_goto 27 dX2_hasLanded_23 (by decide) ?_
      exact rr_iret dX2_hasLanded_27 rfl rfl ⟨congrArg (fun z => some (Value.int (zz z))) (by simp [bI, *]), rfl⟩
set_option maxRecDepth 100000 in
set_option maxHeartbeats 4000000 in
theorem c_hasFallen (E : Ev) (d : Nat) (p pK pL pQ pW pX pY pS : Nat) (np nr : Nat) (a : Nat) (rx ry h : Nat → Int) (hr : rOK nr rx ry) (ho : hOK h) : SP E mX2_hasFallen (d + 1) 0 0 [.ref p, .ref a] [(p, ob 2 [.ref pK, .ref pL, .ref pQ, .ref pW, .ref pX, .ref pY, .ref pS, .int (zz ↑np), .int (zz ↑nr)]), (pX, aI E 6 rx), (pY, aI E 6 ry), (a, hO h)] (FP (some (.int (zz (bI (decide (h 2 = 0) && !anyTo (roofF rx ry (h 0) (h 1)) nr))))) [(p, ob 2 [.ref pK, .ref pL, .ref pQ, .ref pW, .ref pX, .ref pY, .ref pS, .int (zz ↑np), .int (zz ↑nr)]), (pX, aI E 6 rx), (pY, aI E 6 ry), (a, hO h)]) := by
  show RR E mX2_hasFallen (d + 1) 0 0 0 [(0, .ref p), (1, .ref a)] [] [(p, ob 2 [.ref pK, .ref pL, .ref pQ, .ref pW, .ref pX, .ref pY, .ref pS, .int (zz ↑np), .int (zz ↑nr)]), (pX, aI E 6 rx), (pY, aI E 6 ry), (a, hO h)] (FP (some (.int (zz (bI (decide (h 2 = 0) && !anyTo (roofF rx ry (h 0) (h 1)) nr))))) [(p, ob 2 [.ref pK, .ref pL, .ref pQ, .ref pW, .ref pX, .ref pY, .ref pS, .int (zz ↑np), .int (zz ↑nr)]), (pX, aI E 6 rx), (pY, aI E 6 ry), (a, hO h)])
  obtain ⟨o0, o1, o2, o3, o5, o6⟩ := id ho
  refine rr_aload_n 1 dX2_hasFallen_0 rfl ?_
  refine rr_callFi (ws2 := [(p, ob 2 [.ref pK, .ref pL, .ref pQ, .ref pW, .ref pX, .ref pY, .ref pS, .int (zz ↑np), .int (zz ↑nr)]), (pX, aI E 6 rx), (pY, aI E 6 ry), (a, hO h)]) (wr := [(p, ob 2 [.ref pK, .ref pL, .ref pQ, .ref pW, .ref pX, .ref pY, .ref pS, .int (zz ↑np), .int (zz ↑nr)]), (pX, aI E 6 rx), (pY, aI E 6 ry)]) (call_V (q0 := 0) kX2_63 (c_isDown E (d + 0) a h (by omega)) rfl rfl rfl rfl (by omega) (by decide) (Nat.le_of_ble_eq_true rfl) (Nat.le_of_ble_eq_true rfl) dX2_hasFallen_1) [3] [0, 1, 2] [0, 1, 2, 3] rfl rfl rfl rfl rfl rfl rfl ?_
  refine rr_if_eqD 26 dX2_hasFallen_4 (by decide) (fun c_1 => ?_) (fun c_1 => ?_)
  · skip
    refine rr_iconst dX2_hasFallen_26 ?_
    exact rr_iret dX2_hasFallen_27 rfl rfl ⟨congrArg (fun z => some (Value.int (zz z))) (by simp [bI, *]), rfl⟩
  · skip
    refine rr_aload_n 0 dX2_hasFallen_7 rfl ?_
    refine rr_aload_n 1 dX2_hasFallen_8 rfl ?_
    refine rr_get fX2_51 3 rfl rfl dX2_hasFallen_9 ?_
    refine rr_aload_n 1 dX2_hasFallen_12 rfl ?_
    refine rr_get fX2_54 3 rfl rfl dX2_hasFallen_13 ?_
    refine rr_callFi (ws2 := [(p, ob 2 [.ref pK, .ref pL, .ref pQ, .ref pW, .ref pX, .ref pY, .ref pS, .int (zz ↑np), .int (zz ↑nr)]), (pX, aI E 6 rx), (pY, aI E 6 ry), (a, hO h)]) (wr := [(a, hO h)]) (call_V (q0 := 0) kX2_67 (c_isRoofAt E (d + 0) p pK pL pQ pW pX pY pS np nr rx ry (h 0) (h 1) hr (by omega) (by omega)) rfl rfl rfl rfl (by omega) (by decide) (Nat.le_of_ble_eq_true rfl) (Nat.le_of_ble_eq_true rfl) dX2_hasFallen_16) [0, 1, 2] [3] [1, 2, 3, 0] rfl rfl rfl rfl rfl rfl rfl ?_
    refine rr_if_neB 26 dX2_hasFallen_19 (by decide) (fun c_2 => ?_) (fun c_2 => ?_)
    · skip
      refine rr_iconst dX2_hasFallen_26 ?_
      exact rr_iret dX2_hasFallen_27 rfl rfl ⟨congrArg (fun z => some (Value.int (zz z))) (by simp [bI, *]), rfl⟩
    · skip
      refine rr_iconst dX2_hasFallen_22 ?_
      refine rr_goto 27 dX2_hasFallen_23 (by decide) ?_
      exact rr_iret dX2_hasFallen_27 rfl rfl ⟨congrArg (fun z => some (Value.int (zz z))) (by simp [bI, *]), rfl⟩
set_option maxRecDepth 100000 in
set_option maxHeartbeats 4000000 in
theorem c_isDoubling (E : Ev) (d : Nat) (p pK pL pQ pW pX pY pS : Nat) (np nr : Nat) (kd lf qt wd : Nat → Int) (i : Int) (hp : pOK np kd lf qt wd) (hi : -2147483648 ≤ i ∧ i < 2147483648) : SP E mX2_isDoubling (d + 1) 0 0 [.ref p, .int (zz i)] [(p, ob 2 [.ref pK, .ref pL, .ref pQ, .ref pW, .ref pX, .ref pY, .ref pS, .int (zz ↑np), .int (zz ↑nr)]), (pK, aI E 7 kd)] (FP (some (.int (zz (bI (dblF np kd i))))) [(p, ob 2 [.ref pK, .ref pL, .ref pQ, .ref pW, .ref pX, .ref pY, .ref pS, .int (zz ↑np), .int (zz ↑nr)]), (pK, aI E 7 kd)]) := by
  show RR E mX2_isDoubling (d + 1) 0 0 0 [(0, .ref p), (1, .int (zz i))] [] [(p, ob 2 [.ref pK, .ref pL, .ref pQ, .ref pW, .ref pX, .ref pY, .ref pS, .int (zz ↑np), .int (zz ↑nr)]), (pK, aI E 7 kd)] (FP (some (.int (zz (bI (dblF np kd i))))) [(p, ob 2 [.ref pK, .ref pL, .ref pQ, .ref pW, .ref pX, .ref pY, .ref pS, .int (zz ↑np), .int (zz ↑nr)]), (pK, aI E 7 kd)])
  have hn := hp.1
  refine rr_aload_n 0 dX2_isDoubling_0 rfl ?_
  refine rr_iload_n 1 dX2_isDoubling_1 rfl ?_
  refine rr_callFi (ws2 := [(p, ob 2 [.ref pK, .ref pL, .ref pQ, .ref pW, .ref pX, .ref pY, .ref pS, .int (zz ↑np), .int (zz ↑nr)]), (pK, aI E 7 kd)]) (wr := [(pK, aI E 7 kd)]) (call_V (q0 := 0) kX2_71 (c_hasPeg E (d + 0) p pK pL pQ pW pX pY pS np nr i (by omega) (by omega)) rfl rfl rfl rfl (by omega) (by decide) (Nat.le_of_ble_eq_true rfl) (Nat.le_of_ble_eq_true rfl) dX2_isDoubling_2) [0] [1] [1, 0] rfl rfl rfl rfl rfl rfl rfl ?_
  refine rr_if_eqD 22 dX2_isDoubling_5 (by decide) (fun c_1 => ?_) (fun c_1 => ?_)
  · skip
    refine rr_iconst dX2_isDoubling_22 ?_
    exact rr_iret dX2_isDoubling_23 rfl rfl ⟨congrArg (fun z => some (Value.int (zz z))) (by unfold dblF bI; simp_all <;> omega), rfl⟩
  · skip
    refine rr_aload_n 0 dX2_isDoubling_8 rfl ?_
    refine rr_get fX2_9 0 rfl rfl dX2_isDoubling_9 ?_
    refine rr_iload_n 1 dX2_isDoubling_12 rfl ?_
    refine rr_iald 1 ((i).toNat) rfl (by omega) (by omega) (by omega) dX2_isDoubling_13 ?_
    refine rr_iconst dX2_isDoubling_14 ?_
    refine rr_icmp_ne 22 dX2_isDoubling_15 (by decide) (by have := (hp.2.1 i.toNat (by omega)).1; omega) (by have := (hp.2.1 i.toNat (by omega)).1; omega) (fun c_2 => ?_) (fun c_2 => ?_)
    · skip
      refine rr_iconst dX2_isDoubling_22 ?_
      exact rr_iret dX2_isDoubling_23 rfl rfl ⟨congrArg (fun z => some (Value.int (zz z))) (by unfold dblF bI; simp_all <;> omega), rfl⟩
    · skip
      refine rr_iconst dX2_isDoubling_18 ?_
      refine rr_goto 23 dX2_isDoubling_19 (by decide) ?_
      exact rr_iret dX2_isDoubling_23 rfl rfl ⟨congrArg (fun z => some (Value.int (zz z))) (by unfold dblF bI; simp_all <;> omega), rfl⟩
set_option maxRecDepth 100000 in
set_option maxHeartbeats 4000000 in
theorem c_liftBy (E : Ev) (d : Nat) (k u c r : Int) (b : Bool) (hk : 0 ≤ k ∧ k ≤ 3) (hu : -2147483648 ≤ u ∧ u < 2147483648) (hc : -2147483648 ≤ c ∧ c < 2147483648) (hr : -2147483648 ≤ r ∧ r < 2147483648) : SP E mX6_liftBy (d + 0) 0 0 [.int (zz k), .int (zz u), .int (zz c), .int (zz (bI b)), .int (zz r)] [] (FP (some (.int (zz (liftF k u c b r)))) []) := by
  show RR E mX6_liftBy (d + 0) 0 0 0 [(0, .int (zz k)), (1, .int (zz u)), (2, .int (zz c)), (3, .int (zz (bI b))), (4, .int (zz r))] [] [] (FP (some (.int (zz (liftF k u c b r)))) [])
  refine rr_iload_n 1 dX6_liftBy_0 rfl ?_
  refine rr_iconst dX6_liftBy_1 ?_
  refine rr_isub dX6_liftBy_2 ?_
  refine rr_istore (lv2 := [(0, .int (zz k)), (1, .int (zz u)), (2, .int (zz c)), (3, .int (zz (bI b))), (4, .int (zz r)), (5, .int (zz (u - 5)))]) dX6_liftBy_3 (by decide) rfl ?_
  refine rr_iload_n 0 dX6_liftBy_5 rfl ?_
  by_cases s_1_0 : k = 1
  · refine rr_tswIn (off := 26) 32 dX6_liftBy_6 (by omega) (by omega) (by omega) (by rw [s_1_0]; rfl) (by decide) ?_
    refine rr_iload_n 3 dX6_liftBy_32 rfl ?_
    refine rr_if_eqB 43 dX6_liftBy_33 (by decide) (fun c_2 => ?_) (fun c_2 => ?_)
    · skip
      refine rr_iload 5 dX6_liftBy_43 rfl ?_
      exact rr_iret dX6_liftBy_45 rfl rfl ⟨congrArg (fun z => some (Value.int (zz z))) (by unfold liftF; simp_all <;> omega), rfl⟩
    · skip
      refine rr_iconst dX6_liftBy_36 ?_
      refine rr_iload 5 dX6_liftBy_37 rfl ?_
      refine rr_imul dX6_liftBy_39 ?_
      refine rr_goto 45 dX6_liftBy_40 (by decide) ?_
      exact rr_iret dX6_liftBy_45 rfl rfl ⟨congrArg (fun z => some (Value.int (zz z))) (by unfold liftF; simp_all <;> omega), rfl⟩
  by_cases s_1_1 : k = 2
  · refine rr_tswIn (off := 40) 46 dX6_liftBy_6 (by omega) (by omega) (by omega) (by rw [s_1_1]; rfl) (by decide) ?_
    refine rr_iload_n 2 dX6_liftBy_46 rfl ?_
    refine rr_iconst dX6_liftBy_47 ?_
    refine rr_icmp_lt 57 dX6_liftBy_48 (by decide) (by omega) (by omega) (fun c_3 => ?_) (fun c_3 => ?_)
    · skip
      refine rr_iload 5 dX6_liftBy_57 rfl ?_
      exact rr_iret dX6_liftBy_59 rfl rfl ⟨congrArg (fun z => some (Value.int (zz z))) (by unfold liftF; simp_all <;> omega), rfl⟩
    · skip
      refine rr_iload 5 dX6_liftBy_51 rfl ?_
      refine rr_ineg dX6_liftBy_53 ?_
      refine rr_goto 59 dX6_liftBy_54 (by decide) ?_
      exact rr_iret dX6_liftBy_59 rfl rfl ⟨congrArg (fun z => some (Value.int (zz z))) (by unfold liftF; simp_all <;> omega), rfl⟩
  by_cases s_1_2 : k = 3
  · refine rr_tswIn (off := 54) 60 dX6_liftBy_6 (by omega) (by omega) (by omega) (by rw [s_1_2]; rfl) (by decide) ?_
    refine rr_iload 4 dX6_liftBy_60 rfl ?_
    refine rr_iconst dX6_liftBy_62 ?_
    refine rr_icmp_ne 73 dX6_liftBy_63 (by decide) (by omega) (by omega) (fun c_4 => ?_) (fun c_4 => ?_)
    · skip
      refine rr_iload 5 dX6_liftBy_73 rfl ?_
      exact rr_iret dX6_liftBy_75 rfl rfl ⟨congrArg (fun z => some (Value.int (zz z))) (by unfold liftF; simp_all <;> omega), rfl⟩
    · skip
      refine rr_iload 5 dX6_liftBy_66 rfl ?_
      refine rr_iconst dX6_liftBy_68 ?_
      refine rr_isub dX6_liftBy_69 ?_
      refine rr_goto 75 dX6_liftBy_70 (by decide) ?_
      exact rr_iret dX6_liftBy_75 rfl rfl ⟨congrArg (fun z => some (Value.int (zz z))) (by unfold liftF; simp_all <;> omega), rfl⟩
  refine rr_tswOut 76 dX6_liftBy_6 (by omega) (by omega) (by decide) ?_
  refine rr_iload 5 dX6_liftBy_76 rfl ?_
  exact rr_iret dX6_liftBy_78 rfl rfl ⟨congrArg (fun z => some (Value.int (zz z))) (by unfold liftF; simp_all <;> omega), rfl⟩
set_option maxRecDepth 100000 in
set_option maxHeartbeats 4000000 in
theorem c_liftOf (E : Ev) (d : Nat) (p pK pL pQ pW pX pY pS : Nat) (np nr : Nat) (a : Nat) (kd lf qt wd h : Nat → Int) (i : Nat) (hp : pOK np kd lf qt wd) (ho : hOK h) (hi : i < np) : SP E mX2_liftOf (d + 2) 0 0 [.ref p, .int (zz ↑i), .ref a] [(p, ob 2 [.ref pK, .ref pL, .ref pQ, .ref pW, .ref pX, .ref pY, .ref pS, .int (zz ↑np), .int (zz ↑nr)]), (pK, aI E 7 kd), (pL, aI E 7 lf), (a, hO h)] (FP (some (.int (zz (liftF (kd i) (lf i) (h 3) (dblF np kd (h 6)) (h 5))))) [(p, ob 2 [.ref pK, .ref pL, .ref pQ, .ref pW, .ref pX, .ref pY, .ref pS, .int (zz ↑np), .int (zz ↑nr)]), (pK, aI E 7 kd), (pL, aI E 7 lf), (a, hO h)]) := by
  show RR E mX2_liftOf (d + 2) 0 0 0 [(0, .ref p), (1, .int (zz ↑i)), (2, .ref a)] [] [(p, ob 2 [.ref pK, .ref pL, .ref pQ, .ref pW, .ref pX, .ref pY, .ref pS, .int (zz ↑np), .int (zz ↑nr)]), (pK, aI E 7 kd), (pL, aI E 7 lf), (a, hO h)] (FP (some (.int (zz (liftF (kd i) (lf i) (h 3) (dblF np kd (h 6)) (h 5))))) [(p, ob 2 [.ref pK, .ref pL, .ref pQ, .ref pW, .ref pX, .ref pY, .ref pS, .int (zz ↑np), .int (zz ↑nr)]), (pK, aI E 7 kd), (pL, aI E 7 lf), (a, hO h)])
  obtain ⟨o0, o1, o2, o3, o5, o6⟩ := id ho
  have hn := hp.1
  obtain ⟨k0, u0, t0⟩ := hp.2.1 i hi
  refine rr_aload_n 0 dX2_liftOf_0 rfl ?_
  refine rr_iload_n 1 dX2_liftOf_1 rfl ?_
  refine rr_callFi (ws2 := [(p, ob 2 [.ref pK, .ref pL, .ref pQ, .ref pW, .ref pX, .ref pY, .ref pS, .int (zz ↑np), .int (zz ↑nr)]), (pK, aI E 7 kd), (pL, aI E 7 lf), (a, hO h)]) (wr := [(pK, aI E 7 kd), (pL, aI E 7 lf), (a, hO h)]) (call_V (q0 := 0) kX2_71 (c_hasPeg E (d + 1) p pK pL pQ pW pX pY pS np nr ↑i (by omega) (by omega)) rfl rfl rfl rfl (by omega) (by decide) (Nat.le_of_ble_eq_true rfl) (Nat.le_of_ble_eq_true rfl) dX2_liftOf_2) [0] [1, 2, 3] [3, 0, 1, 2] rfl rfl rfl rfl rfl rfl rfl ?_
  refine rr_if_neD 10 dX2_liftOf_5 (by decide) (fun c_1 => ?_) (fun c_1 => ?_)
  · skip
    refine rr_aload_n 0 dX2_liftOf_10 rfl ?_
    refine rr_get fX2_9 0 rfl rfl dX2_liftOf_11 ?_
    refine rr_iload_n 1 dX2_liftOf_14 rfl ?_
    refine rr_iald 1 i rfl rfl (by omega) (by omega) dX2_liftOf_15 ?_
    refine rr_aload_n 0 dX2_liftOf_16 rfl ?_
    refine rr_get fX2_15 0 rfl rfl dX2_liftOf_17 ?_
    refine rr_iload_n 1 dX2_liftOf_20 rfl ?_
    refine rr_iald 2 i rfl rfl (by omega) (by omega) dX2_liftOf_21 ?_
    refine rr_aload_n 2 dX2_liftOf_22 rfl ?_
    refine rr_get fX2_60 3 rfl rfl dX2_liftOf_23 ?_
    refine rr_aload_n 0 dX2_liftOf_26 rfl ?_
    refine rr_aload_n 2 dX2_liftOf_27 rfl ?_
    refine rr_get fX2_75 3 rfl rfl dX2_liftOf_28 ?_
    refine rr_callFi (ws2 := [(p, ob 2 [.ref pK, .ref pL, .ref pQ, .ref pW, .ref pX, .ref pY, .ref pS, .int (zz ↑np), .int (zz ↑nr)]), (pK, aI E 7 kd), (pL, aI E 7 lf), (a, hO h)]) (wr := [(pL, aI E 7 lf), (a, hO h)]) (call_V (q0 := 0) kX2_78 (c_isDoubling E (d + 0) p pK pL pQ pW pX pY pS np nr kd lf qt wd (h 6) hp (by omega)) rfl rfl rfl rfl (by omega) (by decide) (Nat.le_of_ble_eq_true rfl) (Nat.le_of_ble_eq_true rfl) dX2_liftOf_31) [0, 1] [2, 3] [2, 3, 0, 1] rfl rfl rfl rfl rfl rfl rfl ?_
    refine rr_aload_n 2 dX2_liftOf_34 rfl ?_
    refine rr_get fX2_48 3 rfl rfl dX2_liftOf_35 ?_
    refine rr_callFi (ws2 := [(p, ob 2 [.ref pK, .ref pL, .ref pQ, .ref pW, .ref pX, .ref pY, .ref pS, .int (zz ↑np), .int (zz ↑nr)]), (pK, aI E 7 kd), (pL, aI E 7 lf), (a, hO h)]) (wr := [(p, ob 2 [.ref pK, .ref pL, .ref pQ, .ref pW, .ref pX, .ref pY, .ref pS, .int (zz ↑np), .int (zz ↑nr)]), (pK, aI E 7 kd), (pL, aI E 7 lf), (a, hO h)]) (call_SN kX2_81 (c_liftBy E (d + 1) (kd i) (lf i) (h 3) (h 5) (dblF np kd (h 6)) (by omega) (by omega) (by omega) (by omega)) rfl (by omega) (by decide) (Nat.le_of_ble_eq_true rfl) (Nat.le_of_ble_eq_true rfl) dX2_liftOf_38) [] [0, 1, 2, 3] [0, 1, 2, 3] rfl rfl rfl rfl rfl rfl rfl ?_
    exact rr_iret dX2_liftOf_41 rfl rfl ⟨rfl, rfl⟩
  · skip
    exfalso; omega
set_option maxRecDepth 100000 in
set_option maxHeartbeats 4000000 in
theorem c_quartersOf (E : Ev) (d : Nat) (p pK pL pQ pW pX pY pS : Nat) (np nr : Nat) (a : Nat) (kd lf qt wd h : Nat → Int) (i : Nat) (hp : pOK np kd lf qt wd) (ho : hOK h) (hi : i < np) : SP E mX2_quartersOf (d + 1) 0 0 [.ref p, .int (zz ↑i), .ref a] [(p, ob 2 [.ref pK, .ref pL, .ref pQ, .ref pW, .ref pX, .ref pY, .ref pS, .int (zz ↑np), .int (zz ↑nr)]), (pK, aI E 7 kd), (pQ, aI E 7 qt), (a, hO h)] (FP (some (.int (zz (quartF (kd i) (qt i) (h 3))))) [(p, ob 2 [.ref pK, .ref pL, .ref pQ, .ref pW, .ref pX, .ref pY, .ref pS, .int (zz ↑np), .int (zz ↑nr)]), (pK, aI E 7 kd), (pQ, aI E 7 qt), (a, hO h)]) := by
  show RR E mX2_quartersOf (d + 1) 0 0 0 [(0, .ref p), (1, .int (zz ↑i)), (2, .ref a)] [] [(p, ob 2 [.ref pK, .ref pL, .ref pQ, .ref pW, .ref pX, .ref pY, .ref pS, .int (zz ↑np), .int (zz ↑nr)]), (pK, aI E 7 kd), (pQ, aI E 7 qt), (a, hO h)] (FP (some (.int (zz (quartF (kd i) (qt i) (h 3))))) [(p, ob 2 [.ref pK, .ref pL, .ref pQ, .ref pW, .ref pX, .ref pY, .ref pS, .int (zz ↑np), .int (zz ↑nr)]), (pK, aI E 7 kd), (pQ, aI E 7 qt), (a, hO h)])
  obtain ⟨o0, o1, o2, o3, o5, o6⟩ := id ho
  have hn := hp.1
  obtain ⟨k0, u0, t0⟩ := hp.2.1 i hi
  refine rr_aload_n 0 dX2_quartersOf_0 rfl ?_
  refine rr_iload_n 1 dX2_quartersOf_1 rfl ?_
  refine rr_callFi (ws2 := [(p, ob 2 [.ref pK, .ref pL, .ref pQ, .ref pW, .ref pX, .ref pY, .ref pS, .int (zz ↑np), .int (zz ↑nr)]), (pK, aI E 7 kd), (pQ, aI E 7 qt), (a, hO h)]) (wr := [(pK, aI E 7 kd), (pQ, aI E 7 qt), (a, hO h)]) (call_V (q0 := 0) kX2_71 (c_hasPeg E (d + 0) p pK pL pQ pW pX pY pS np nr ↑i (by omega) (by omega)) rfl rfl rfl rfl (by omega) (by decide) (Nat.le_of_ble_eq_true rfl) (Nat.le_of_ble_eq_true rfl) dX2_quartersOf_2) [0] [1, 2, 3] [3, 0, 1, 2] rfl rfl rfl rfl rfl rfl rfl ?_
  refine rr_if_neD 10 dX2_quartersOf_5 (by decide) (fun c_1 => ?_) (fun c_1 => ?_)
  · skip
    refine rr_aload_n 0 dX2_quartersOf_10 rfl ?_
    refine rr_get fX2_9 0 rfl rfl dX2_quartersOf_11 ?_
    refine rr_iload_n 1 dX2_quartersOf_14 rfl ?_
    refine rr_iald 1 i rfl rfl (by omega) (by omega) dX2_quartersOf_15 ?_
    refine rr_iconst dX2_quartersOf_16 ?_
    refine rr_icmp_ne 32 dX2_quartersOf_17 (by decide) (by omega) (by omega) (fun c_2 => ?_) (fun c_2 => ?_)
    · skip
      refine rr_iconst dX2_quartersOf_32 ?_
      refine rr_istore_n (lv2 := [(0, .ref p), (1, .int (zz ↑i)), (2, .ref a), (3, .int (zz 0))]) dX2_quartersOf_33 (by decide) rfl ?_
      refine rr_iload_n 3 dX2_quartersOf_34 rfl ?_
      refine rr_if_eq 48 dX2_quartersOf_35 (by decide) (by omega) (fun c_3 => ?_) (fun c_3 => ?_)
      · skip
        refine rr_aload_n 0 dX2_quartersOf_48 rfl ?_
        refine rr_get fX2_18 0 rfl rfl dX2_quartersOf_49 ?_
        refine rr_iload_n 1 dX2_quartersOf_52 rfl ?_
        refine rr_iald 2 i rfl rfl (by omega) (by omega) dX2_quartersOf_53 ?_
        refine rr_iconst dX2_quartersOf_54 ?_
        refine rr_iand (r := quartF (kd i) (qt i) (h 3)) 2 dX2_quartersOf_55 (by decide) (by decide +kernel) (by unfold quartF; simp_all <;> omega) ?_
        exact rr_iret dX2_quartersOf_56 rfl rfl ⟨rfl, rfl⟩
      · skip
        refine rr_aload_n 0 dX2_quartersOf_38 rfl ?_
        refine rr_get fX2_18 0 rfl rfl dX2_quartersOf_39 ?_
        refine rr_iload_n 1 dX2_quartersOf_42 rfl ?_
        refine rr_iald 2 i rfl rfl (by omega) (by omega) dX2_quartersOf_43 ?_
        refine rr_ineg dX2_quartersOf_44 ?_
        refine rr_goto 54 dX2_quartersOf_45 (by decide) ?_
        refine rr_iconst dX2_quartersOf_54 ?_
        refine rr_iand (r := quartF (kd i) (qt i) (h 3)) 2 dX2_quartersOf_55 (by decide) (by decide +kernel) (by unfold quartF; simp_all <;> omega) ?_
        exact rr_iret dX2_quartersOf_56 rfl rfl ⟨rfl, rfl⟩
    · skip
      refine rr_aload_n 2 dX2_quartersOf_20 rfl ?_
      refine rr_get fX2_60 3 rfl rfl dX2_quartersOf_21 ?_
      refine rr_iconst dX2_quartersOf_24 ?_
      refine rr_icmp_lt 32 dX2_quartersOf_25 (by decide) (by omega) (by omega) (fun c_4 => ?_) (fun c_4 => ?_)
      · skip
        refine rr_iconst dX2_quartersOf_32 ?_
        refine rr_istore_n (lv2 := [(0, .ref p), (1, .int (zz ↑i)), (2, .ref a), (3, .int (zz 0))]) dX2_quartersOf_33 (by decide) rfl ?_
        refine rr_iload_n 3 dX2_quartersOf_34 rfl ?_
        refine rr_if_eq 48 dX2_quartersOf_35 (by decide) (by omega) (fun c_5 => ?_) (fun c_5 => ?_)
        · skip
          refine rr_aload_n 0 dX2_quartersOf_48 rfl ?_
          refine rr_get fX2_18 0 rfl rfl dX2_quartersOf_49 ?_
          refine rr_iload_n 1 dX2_quartersOf_52 rfl ?_
          refine rr_iald 2 i rfl rfl (by omega) (by omega) dX2_quartersOf_53 ?_
          refine rr_iconst dX2_quartersOf_54 ?_
          refine rr_iand (r := quartF (kd i) (qt i) (h 3)) 2 dX2_quartersOf_55 (by decide) (by decide +kernel) (by unfold quartF; simp_all <;> omega) ?_
          exact rr_iret dX2_quartersOf_56 rfl rfl ⟨rfl, rfl⟩
        · skip
          refine rr_aload_n 0 dX2_quartersOf_38 rfl ?_
          refine rr_get fX2_18 0 rfl rfl dX2_quartersOf_39 ?_
          refine rr_iload_n 1 dX2_quartersOf_42 rfl ?_
          refine rr_iald 2 i rfl rfl (by omega) (by omega) dX2_quartersOf_43 ?_
          refine rr_ineg dX2_quartersOf_44 ?_
          refine rr_goto 54 dX2_quartersOf_45 (by decide) ?_
          refine rr_iconst dX2_quartersOf_54 ?_
          refine rr_iand (r := quartF (kd i) (qt i) (h 3)) 2 dX2_quartersOf_55 (by decide) (by decide +kernel) (by unfold quartF; simp_all <;> omega) ?_
          exact rr_iret dX2_quartersOf_56 rfl rfl ⟨rfl, rfl⟩
      · skip
        refine rr_iconst dX2_quartersOf_28 ?_
        refine rr_goto 33 dX2_quartersOf_29 (by decide) ?_
        refine rr_istore_n (lv2 := [(0, .ref p), (1, .int (zz ↑i)), (2, .ref a), (3, .int (zz 1))]) dX2_quartersOf_33 (by decide) rfl ?_
        refine rr_iload_n 3 dX2_quartersOf_34 rfl ?_
        refine rr_if_eq 48 dX2_quartersOf_35 (by decide) (by omega) (fun c_6 => ?_) (fun c_6 => ?_)
        · skip
          refine rr_aload_n 0 dX2_quartersOf_48 rfl ?_
          refine rr_get fX2_18 0 rfl rfl dX2_quartersOf_49 ?_
          refine rr_iload_n 1 dX2_quartersOf_52 rfl ?_
          refine rr_iald 2 i rfl rfl (by omega) (by omega) dX2_quartersOf_53 ?_
          refine rr_iconst dX2_quartersOf_54 ?_
          refine rr_iand (r := quartF (kd i) (qt i) (h 3)) 2 dX2_quartersOf_55 (by decide) (by decide +kernel) (by unfold quartF; simp_all <;> omega) ?_
          exact rr_iret dX2_quartersOf_56 rfl rfl ⟨rfl, rfl⟩
        · skip
          refine rr_aload_n 0 dX2_quartersOf_38 rfl ?_
          refine rr_get fX2_18 0 rfl rfl dX2_quartersOf_39 ?_
          refine rr_iload_n 1 dX2_quartersOf_42 rfl ?_
          refine rr_iald 2 i rfl rfl (by omega) (by omega) dX2_quartersOf_43 ?_
          refine rr_ineg dX2_quartersOf_44 ?_
          refine rr_goto 54 dX2_quartersOf_45 (by decide) ?_
          refine rr_iconst dX2_quartersOf_54 ?_
          refine rr_iand (r := quartF (kd i) (qt i) (h 3)) 2 dX2_quartersOf_55 (by decide) (by decide +kernel) (by unfold quartF; simp_all <;> omega) ?_
          exact rr_iret dX2_quartersOf_56 rfl rfl ⟨rfl, rfl⟩
  · skip
    exfalso; omega
set_option maxRecDepth 100000 in
set_option maxHeartbeats 4000000 in
theorem c_glide (E : Ev) (d : Nat) (p pK pL pQ pW pX pY pS : Nat) (np nr : Nat) (a : Nat) (kd lf qt wd h : Nat → Int) (hp : pOK np kd lf qt wd) (ho : hOK h) : SP E mX2_glide (d + 2) 0 0 [.ref p, .ref a] [(p, ob 2 [.ref pK, .ref pL, .ref pQ, .ref pW, .ref pX, .ref pY, .ref pS, .int (zz ↑np), .int (zz ↑nr)]), (pW, aI E 10 wd), (a, hO h)] (FP none [(p, ob 2 [.ref pK, .ref pL, .ref pQ, .ref pW, .ref pX, .ref pY, .ref pS, .int (zz ↑np), .int (zz ↑nr)]), (pW, aI E 10 wd), (a, hO (glF wd h))]) := by
  show RR E mX2_glide (d + 2) 0 0 0 [(0, .ref p), (1, .ref a)] [] [(p, ob 2 [.ref pK, .ref pL, .ref pQ, .ref pW, .ref pX, .ref pY, .ref pS, .int (zz ↑np), .int (zz ↑nr)]), (pW, aI E 10 wd), (a, hO h)] (FP none [(p, ob 2 [.ref pK, .ref pL, .ref pQ, .ref pW, .ref pX, .ref pY, .ref pS, .int (zz ↑np), .int (zz ↑nr)]), (pW, aI E 10 wd), (a, hO (glF wd h))])
  obtain ⟨o0, o1, o2, o3, o5, o6⟩ := id ho
  have hw := windF_rg hp (h 2)
  refine rr_aload_n 1 dX2_glide_0 rfl ?_
  refine rr_aload_n 1 dX2_glide_1 rfl ?_
  refine rr_get fX2_60 2 rfl rfl dX2_glide_2 ?_
  refine rr_callFv (ws2 := [(p, ob 2 [.ref pK, .ref pL, .ref pQ, .ref pW, .ref pX, .ref pY, .ref pS, .int (zz ↑np), .int (zz ↑nr)]), (pW, aI E 10 wd), (a, hO (stp h (h 3)))]) (wr := [(p, ob 2 [.ref pK, .ref pL, .ref pQ, .ref pW, .ref pX, .ref pY, .ref pS, .int (zz ↑np), .int (zz ↑nr)]), (pW, aI E 10 wd)]) (call_V (q0 := 0) kX2_100 (c_step E (d + 0) a h (h 3) (by omega) ho.1 ho.2.1) rfl rfl rfl rfl (by omega) (by decide) (Nat.le_of_ble_eq_true rfl) (Nat.le_of_ble_eq_true rfl) dX2_glide_5) [2] [0, 1] [0, 1, 2] rfl rfl rfl rfl rfl rfl rfl ?_
  refine rr_aload_n 1 dX2_glide_8 rfl ?_
  refine rr_aload_n 0 dX2_glide_9 rfl ?_
  refine rr_aload_n 1 dX2_glide_10 rfl ?_
  refine rr_get fX2_57 2 rfl rfl dX2_glide_11 ?_
  refine rr_callFi (ws2 := [(p, ob 2 [.ref pK, .ref pL, .ref pQ, .ref pW, .ref pX, .ref pY, .ref pS, .int (zz ↑np), .int (zz ↑nr)]), (pW, aI E 10 wd), (a, hO (stp h (h 3)))]) (wr := [(a, hO (stp h (h 3)))]) (call_V (q0 := 0) kX2_104 (c_windAt E (d + 1) p pK pL pQ pW pX pY pS np nr wd (h 2) (by omega)) rfl rfl rfl rfl (by omega) (by decide) (Nat.le_of_ble_eq_true rfl) (Nat.le_of_ble_eq_true rfl) dX2_glide_14) [0, 1] [2] [1, 2, 0] rfl rfl rfl rfl rfl rfl rfl ?_
  refine rr_callFv (ws2 := [(p, ob 2 [.ref pK, .ref pL, .ref pQ, .ref pW, .ref pX, .ref pY, .ref pS, .int (zz ↑np), .int (zz ↑nr)]), (pW, aI E 10 wd), (a, hO (stp (stp h (h 3)) (windF wd (h 2))))]) (wr := [(p, ob 2 [.ref pK, .ref pL, .ref pQ, .ref pW, .ref pX, .ref pY, .ref pS, .int (zz ↑np), .int (zz ↑nr)]), (pW, aI E 10 wd)]) (call_V (q0 := 0) kX2_100 (c_step E (d + 0) a (stp h (h 3)) (windF wd (h 2)) (by omega) (stp_ok (d := h 3) ho).1 (stp_ok (d := h 3) ho).2.1) rfl rfl rfl rfl (by omega) (by decide) (Nat.le_of_ble_eq_true rfl) (Nat.le_of_ble_eq_true rfl) dX2_glide_17) [2] [0, 1] [0, 1, 2] rfl rfl rfl rfl rfl rfl rfl ?_
  refine rr_aload_n 1 dX2_glide_20 rfl ?_
  refine rr_dup dX2_glide_21 rfl ?_
  refine rr_get fX2_108 2 rfl rfl dX2_glide_22 ?_
  refine rr_iconst dX2_glide_25 ?_
  refine rr_iadd dX2_glide_26 ?_
  refine rr_put (ws2 := [(p, ob 2 [.ref pK, .ref pL, .ref pQ, .ref pW, .ref pX, .ref pY, .ref pS, .int (zz ↑np), .int (zz ↑nr)]), (pW, aI E 10 wd), (a, hO (updI (stp (stp h (h 3)) (windF wd (h 2))) 4 ((h 4) + 1)))]) fX2_108 2 rfl rfl rfl (Nat.le_of_ble_eq_true rfl) rfl dX2_glide_27 ?_
  refine rr_aload_n 1 dX2_glide_30 rfl ?_
  refine rr_bipush dX2_glide_31 (by decide) ?_
  refine rr_put (ws2 := [(p, ob 2 [.ref pK, .ref pL, .ref pQ, .ref pW, .ref pX, .ref pY, .ref pS, .int (zz ↑np), .int (zz ↑nr)]), (pW, aI E 10 wd), (a, hO (updI (updI (stp (stp h (h 3)) (windF wd (h 2))) 4 ((h 4) + 1)) 6 (-4)))]) fX2_75 2 rfl rfl rfl (Nat.le_of_ble_eq_true rfl) rfl dX2_glide_33 ?_
  exact rr_ret dX2_glide_36 rfl ⟨rfl, rfl⟩
set_option maxRecDepth 100000 in
set_option maxHeartbeats 4000000 in
theorem c_turnPeg (E : Ev) (d : Nat) (p pK pL pQ pW pX pY pS : Nat) (np nr : Nat) (a : Nat) (kd lf qt wd h : Nat → Int) (i : Nat) (hp : pOK np kd lf qt wd) (ho : hOK h) (hi : i < np) : SP E mX2_turnPeg (d + 3) 0 0 [.ref p, .ref a, .int (zz ↑i)] [(p, ob 2 [.ref pK, .ref pL, .ref pQ, .ref pW, .ref pX, .ref pY, .ref pS, .int (zz ↑np), .int (zz ↑nr)]), (pK, aI E 7 kd), (pL, aI E 7 lf), (pQ, aI E 7 qt), (pW, aI E 10 wd), (a, hO h)] (FP none [(p, ob 2 [.ref pK, .ref pL, .ref pQ, .ref pW, .ref pX, .ref pY, .ref pS, .int (zz ↑np), .int (zz ↑nr)]), (pK, aI E 7 kd), (pL, aI E 7 lf), (pQ, aI E 7 qt), (pW, aI E 10 wd), (a, hO (tnF np kd lf qt wd h i))]) := by
  show RR E mX2_turnPeg (d + 3) 0 0 0 [(0, .ref p), (1, .ref a), (2, .int (zz ↑i))] [] [(p, ob 2 [.ref pK, .ref pL, .ref pQ, .ref pW, .ref pX, .ref pY, .ref pS, .int (zz ↑np), .int (zz ↑nr)]), (pK, aI E 7 kd), (pL, aI E 7 lf), (pQ, aI E 7 qt), (pW, aI E 10 wd), (a, hO h)] (FP none [(p, ob 2 [.ref pK, .ref pL, .ref pQ, .ref pW, .ref pX, .ref pY, .ref pS, .int (zz ↑np), .int (zz ↑nr)]), (pK, aI E 7 kd), (pL, aI E 7 lf), (pQ, aI E 7 qt), (pW, aI E 10 wd), (a, hO (tnF np kd lf qt wd h i))])
  obtain ⟨o0, o1, o2, o3, o5, o6⟩ := id ho
  have hn := hp.1
  obtain ⟨k0, u0, t0⟩ := hp.2.1 i hi
  have hl := liftF_rg (k := kd i) (c := h 3) (b := dblF np kd (h 6)) (r := h 5) u0
  have hq := quartF_rg (kd i) (qt i) (h 3)
  have hmid : hOK (updI (updI h 2 (clampI (h 2 + liftF (kd i) (lf i) (h 3) (dblF np kd (h 6)) (h 5)) 9)) 3 ((h 3 + quartF (kd i) (qt i) (h 3)) % 4)) := ⟨o0, o1, clampI_rg (by omega), by show 0 ≤ (h 3 + quartF (kd i) (qt i) (h 3)) % 4 ∧ (h 3 + quartF (kd i) (qt i) (h 3)) % 4 ≤ 3; omega, o5, o6⟩
  refine rr_aload_n 0 dX2_turnPeg_0 rfl ?_
  refine rr_iload_n 2 dX2_turnPeg_1 rfl ?_
  refine rr_aload_n 1 dX2_turnPeg_2 rfl ?_
  refine rr_callFi (ws2 := [(p, ob 2 [.ref pK, .ref pL, .ref pQ, .ref pW, .ref pX, .ref pY, .ref pS, .int (zz ↑np), .int (zz ↑nr)]), (pK, aI E 7 kd), (pL, aI E 7 lf), (pQ, aI E 7 qt), (pW, aI E 10 wd), (a, hO h)]) (wr := [(pQ, aI E 7 qt), (pW, aI E 10 wd)]) (call_V (q0 := 0) kX2_85 (c_liftOf E (d + 0) p pK pL pQ pW pX pY pS np nr a kd lf qt wd h i hp ho (by omega)) rfl rfl rfl rfl (by omega) (by decide) (Nat.le_of_ble_eq_true rfl) (Nat.le_of_ble_eq_true rfl) dX2_turnPeg_3) [0, 1, 2, 5] [3, 4] [2, 3, 4, 0, 1, 5] rfl rfl rfl rfl rfl rfl rfl ?_
  refine rr_istore_n (lv2 := [(0, .ref p), (1, .ref a), (2, .int (zz ↑i)), (3, .int (zz (liftF (kd i) (lf i) (h 3) (dblF np kd (h 6)) (h 5))))]) dX2_turnPeg_6 (by decide) rfl ?_
  refine rr_aload_n 0 dX2_turnPeg_7 rfl ?_
  refine rr_iload_n 2 dX2_turnPeg_8 rfl ?_
  refine rr_aload_n 1 dX2_turnPeg_9 rfl ?_
  refine rr_callFi (ws2 := [(p, ob 2 [.ref pK, .ref pL, .ref pQ, .ref pW, .ref pX, .ref pY, .ref pS, .int (zz ↑np), .int (zz ↑nr)]), (pK, aI E 7 kd), (pL, aI E 7 lf), (pQ, aI E 7 qt), (pW, aI E 10 wd), (a, hO h)]) (wr := [(pL, aI E 7 lf), (pW, aI E 10 wd)]) (call_V (q0 := 0) kX2_89 (c_quartersOf E (d + 1) p pK pL pQ pW pX pY pS np nr a kd lf qt wd h i hp ho (by omega)) rfl rfl rfl rfl (by omega) (by decide) (Nat.le_of_ble_eq_true rfl) (Nat.le_of_ble_eq_true rfl) dX2_turnPeg_10) [0, 1, 3, 5] [2, 4] [2, 3, 0, 4, 1, 5] rfl rfl rfl rfl rfl rfl rfl ?_
  refine rr_istore (lv2 := [(0, .ref p), (1, .ref a), (2, .int (zz ↑i)), (3, .int (zz (liftF (kd i) (lf i) (h 3) (dblF np kd (h 6)) (h 5)))), (4, .int (zz (quartF (kd i) (qt i) (h 3))))]) dX2_turnPeg_13 (by decide) rfl ?_
  refine rr_aload_n 1 dX2_turnPeg_15 rfl ?_
  refine rr_aload_n 1 dX2_turnPeg_16 rfl ?_
  refine rr_get fX2_57 5 rfl rfl dX2_turnPeg_17 ?_
  refine rr_iload_n 3 dX2_turnPeg_20 rfl ?_
  refine rr_iadd dX2_turnPeg_21 ?_
  refine rr_bipush dX2_turnPeg_22 (by decide) ?_
  refine rr_callFi (ws2 := [(p, ob 2 [.ref pK, .ref pL, .ref pQ, .ref pW, .ref pX, .ref pY, .ref pS, .int (zz ↑np), .int (zz ↑nr)]), (pK, aI E 7 kd), (pL, aI E 7 lf), (pQ, aI E 7 qt), (pW, aI E 10 wd), (a, hO h)]) (wr := [(p, ob 2 [.ref pK, .ref pL, .ref pQ, .ref pW, .ref pX, .ref pY, .ref pS, .int (zz ↑np), .int (zz ↑nr)]), (pK, aI E 7 kd), (pL, aI E 7 lf), (pQ, aI E 7 qt), (pW, aI E 10 wd), (a, hO h)]) (call_SN kX2_92 (c_within E (d + 2) ((h 2) + (liftF (kd i) (lf i) (h 3) (dblF np kd (h 6)) (h 5))) 9 (by omega) (by omega)) rfl (by omega) (by decide) (Nat.le_of_ble_eq_true rfl) (Nat.le_of_ble_eq_true rfl) dX2_turnPeg_24) [] [0, 1, 2, 3, 4, 5] [0, 1, 2, 3, 4, 5] rfl rfl rfl rfl rfl rfl rfl ?_
  refine rr_put (ws2 := [(p, ob 2 [.ref pK, .ref pL, .ref pQ, .ref pW, .ref pX, .ref pY, .ref pS, .int (zz ↑np), .int (zz ↑nr)]), (pK, aI E 7 kd), (pL, aI E 7 lf), (pQ, aI E 7 qt), (pW, aI E 10 wd), (a, hO (updI h 2 (clampI ((h 2) + (liftF (kd i) (lf i) (h 3) (dblF np kd (h 6)) (h 5))) 9)))]) fX2_57 5 rfl rfl rfl (Nat.le_of_ble_eq_true rfl) rfl dX2_turnPeg_27 ?_
  refine rr_aload_n 1 dX2_turnPeg_30 rfl ?_
  refine rr_aload_n 1 dX2_turnPeg_31 rfl ?_
  refine rr_get fX2_60 5 rfl rfl dX2_turnPeg_32 ?_
  refine rr_iload 4 dX2_turnPeg_35 rfl ?_
  refine rr_iadd dX2_turnPeg_37 ?_
  refine rr_iconst dX2_turnPeg_38 ?_
  refine rr_iand (r := ((h 3) + (quartF (kd i) (qt i) (h 3))) % 4) 2 dX2_turnPeg_39 (by decide) (by decide +kernel) rfl ?_
  refine rr_put (ws2 := [(p, ob 2 [.ref pK, .ref pL, .ref pQ, .ref pW, .ref pX, .ref pY, .ref pS, .int (zz ↑np), .int (zz ↑nr)]), (pK, aI E 7 kd), (pL, aI E 7 lf), (pQ, aI E 7 qt), (pW, aI E 10 wd), (a, hO (updI (updI h 2 (clampI ((h 2) + (liftF (kd i) (lf i) (h 3) (dblF np kd (h 6)) (h 5))) 9)) 3 (((h 3) + (quartF (kd i) (qt i) (h 3))) % 4)))]) fX2_60 5 rfl rfl rfl (Nat.le_of_ble_eq_true rfl) rfl dX2_turnPeg_40 ?_
  refine rr_aload_n 0 dX2_turnPeg_43 rfl ?_
  refine rr_aload_n 1 dX2_turnPeg_44 rfl ?_
  refine rr_callFv (ws2 := [(p, ob 2 [.ref pK, .ref pL, .ref pQ, .ref pW, .ref pX, .ref pY, .ref pS, .int (zz ↑np), .int (zz ↑nr)]), (pK, aI E 7 kd), (pL, aI E 7 lf), (pQ, aI E 7 qt), (pW, aI E 10 wd), (a, hO (glF wd (updI (updI h 2 (clampI ((h 2) + (liftF (kd i) (lf i) (h 3) (dblF np kd (h 6)) (h 5))) 9)) 3 (((h 3) + (quartF (kd i) (qt i) (h 3))) % 4))))]) (wr := [(pK, aI E 7 kd), (pL, aI E 7 lf), (pQ, aI E 7 qt)]) (call_V (q0 := 0) kX2_96 (c_glide E (d + 0) p pK pL pQ pW pX pY pS np nr a kd lf qt wd (updI (updI h 2 (clampI ((h 2) + (liftF (kd i) (lf i) (h 3) (dblF np kd (h 6)) (h 5))) 9)) 3 (((h 3) + (quartF (kd i) (qt i) (h 3))) % 4)) hp hmid) rfl rfl rfl rfl (by omega) (by decide) (Nat.le_of_ble_eq_true rfl) (Nat.le_of_ble_eq_true rfl) dX2_turnPeg_45) [0, 4, 5] [1, 2, 3] [3, 0, 1, 2, 4, 5] rfl rfl rfl rfl rfl rfl rfl ?_
  refine rr_aload_n 1 dX2_turnPeg_48 rfl ?_
  refine rr_iload_n 2 dX2_turnPeg_49 rfl ?_
  refine rr_put (ws2 := [(p, ob 2 [.ref pK, .ref pL, .ref pQ, .ref pW, .ref pX, .ref pY, .ref pS, .int (zz ↑np), .int (zz ↑nr)]), (pK, aI E 7 kd), (pL, aI E 7 lf), (pQ, aI E 7 qt), (pW, aI E 10 wd), (a, hO (updI (glF wd (updI (updI h 2 (clampI ((h 2) + (liftF (kd i) (lf i) (h 3) (dblF np kd (h 6)) (h 5))) 9)) 3 (((h 3) + (quartF (kd i) (qt i) (h 3))) % 4))) 6 ↑i))]) fX2_75 5 rfl rfl rfl (Nat.le_of_ble_eq_true rfl) rfl dX2_turnPeg_50 ?_
  exact rr_ret dX2_turnPeg_53 rfl ⟨rfl, rfl⟩
