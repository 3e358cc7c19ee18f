set_option maxRecDepth 100000 in
set_option maxHeartbeats 1000000 in
theorem c_write_bad (E : Ev) (d : Nat) (x s p z a b c f k q o : Nat) (sg nm len : Nat) (tx : Nat → Int) (at_ : Nat) (l : Int) (gl : -2147483648 ≤ l ∧ l < 2147483648) (hl : ¬ (32 ≤ l ∧ l ≤ 126)) : SP E mX6_write (d + 1) 0 0 [.ref x, .int (zz l)] [(x, ob 6 [.ref s, .ref p, .ref z, .ref a, .ref b, .ref c, .ref f, .ref k, .ref q, .ref o]), (s, ob 3 [.ref sg, .ref nm, .int (zz ↑len), .int (zz ↑at_)]), (sg, aC E 200 tx)] (FP (some (.int (zz (-1)))) [(x, ob 6 [.ref s, .ref p, .ref z, .ref a, .ref b, .ref c, .ref f, .ref k, .ref q, .ref o]), (s, ob 3 [.ref sg, .ref nm, .int (zz ↑len), .int (zz ↑at_)]), (sg, aC E 200 tx)]) := by
  show RR E mX6_write (d + 1) 0 0 0 [(0, .ref x), (1, .int (zz l))] [] [(x, ob 6 [.ref s, .ref p, .ref z, .ref a, .ref b, .ref c, .ref f, .ref k, .ref q, .ref o]), (s, ob 3 [.ref sg, .ref nm, .int (zz ↑len), .int (zz ↑at_)]), (sg, aC E 200 tx)] (FP (some (.int (zz (-1)))) [(x, ob 6 [.ref s, .ref p, .ref z, .ref a, .ref b, .ref c, .ref f, .ref k, .ref q, .ref o]), (s, ob 3 [.ref sg, .ref nm, .int (zz ↑len), .int (zz ↑at_)]), (sg, aC E 200 tx)])
  refine rr_iload_n 1 dX6_write_0 rfl ?_
  refine rr_bipush dX6_write_1 (by decide) ?_
  refine rr_icmp_lt 12 dX6_write_3 (by decide) (by omega) (by omega) (fun c_1 => ?_) (fun c_1 => ?_)
  · skip
    refine rr_iconst dX6_write_12 ?_
    exact rr_iret dX6_write_13 rfl rfl ⟨rfl, rfl⟩
  · skip
    refine rr_iload_n 1 dX6_write_6 rfl ?_
    refine rr_bipush dX6_write_7 (by decide) ?_
    refine rr_icmp_le 14 dX6_write_9 (by decide) (by omega) (by omega) (fun c_2 => ?_) (fun c_2 => ?_)
    · skip
      exfalso; omega
    · skip
      refine rr_iconst dX6_write_12 ?_
      exact rr_iret dX6_write_13 rfl rfl ⟨rfl, rfl⟩
set_option maxRecDepth 100000 in
set_option maxHeartbeats 1000000 in
theorem c_write_y (E : Ev) (d : Nat) (x s p z a b c f k q o : Nat) (sg nm len : Nat) (tx : Nat → Int) (at_ : Nat) (l : Int) (hl : 32 ≤ l ∧ l ≤ 126) (hn : len < 200) : SP E mX6_write (d + 1) 0 0 [.ref x, .int (zz l)] [(x, ob 6 [.ref s, .ref p, .ref z, .ref a, .ref b, .ref c, .ref f, .ref k, .ref q, .ref o]), (s, ob 3 [.ref sg, .ref nm, .int (zz ↑len), .int (zz ↑at_)]), (sg, aC E 200 tx)] (FP (some (.int (zz (↑(len + 1))))) [(x, ob 6 [.ref s, .ref p, .ref z, .ref a, .ref b, .ref c, .ref f, .ref k, .ref q, .ref o]), (s, ob 3 [.ref sg, .ref nm, .int (zz (↑(len + 1))), .int (zz ↑at_)]), (sg, aC E 200 (updI tx len l))]) := by
  show RR E mX6_write (d + 1) 0 0 0 [(0, .ref x), (1, .int (zz l))] [] [(x, ob 6 [.ref s, .ref p, .ref z, .ref a, .ref b, .ref c, .ref f, .ref k, .ref q, .ref o]), (s, ob 3 [.ref sg, .ref nm, .int (zz ↑len), .int (zz ↑at_)]), (sg, aC E 200 tx)] (FP (some (.int (zz (↑(len + 1))))) [(x, ob 6 [.ref s, .ref p, .ref z, .ref a, .ref b, .ref c, .ref f, .ref k, .ref q, .ref o]), (s, ob 3 [.ref sg, .ref nm, .int (zz (↑(len + 1))), .int (zz ↑at_)]), (sg, aC E 200 (updI tx len l))])
  refine rr_iload_n 1 dX6_write_0 rfl ?_
  refine rr_bipush dX6_write_1 (by decide) ?_
  refine rr_icmp_lt 12 dX6_write_3 (by decide) (by omega) (by omega) (fun c_1 => ?_) (fun c_1 => ?_)
  · skip
    exfalso; omega
  · skip
    refine rr_iload_n 1 dX6_write_6 rfl ?_
    refine rr_bipush dX6_write_7 (by decide) ?_
    refine rr_icmp_le 14 dX6_write_9 (by decide) (by omega) (by omega) (fun c_2 => ?_) (fun c_2 => ?_)
    · skip
      refine rr_aload_n 0 dX6_write_14 rfl ?_
      refine rr_get fX6_10 0 rfl rfl dX6_write_15 ?_
      refine rr_iload_n 1 dX6_write_18 rfl ?_
      refine rr_i2c dX6_write_19 (by omega) ?_
      refine rr_callFi (ws2 := [(x, ob 6 [.ref s, .ref p, .ref z, .ref a, .ref b, .ref c, .ref f, .ref k, .ref q, .ref o]), (s, ob 3 [.ref sg, .ref nm, .int (zz (↑(len + 1))), .int (zz ↑at_)]), (sg, aC E 200 (updI tx len l))]) (wr := [(x, ob 6 [.ref s, .ref p, .ref z, .ref a, .ref b, .ref c, .ref f, .ref k, .ref q, .ref o])]) (call_V (q0 := 0) kX6_79 (c_add_y E (d + 0) s sg nm len tx at_ l (by omega) (by omega)) rfl rfl rfl rfl (by omega) (by decide) (Nat.le_of_ble_eq_true rfl) (Nat.le_of_ble_eq_true rfl) dX6_write_20) [1, 2] [0] [0, 1, 2] rfl rfl rfl rfl rfl rfl rfl ?_
      refine rr_if_eq 36 dX6_write_23 (by decide) (by omega) (fun c_3 => ?_) (fun c_3 => ?_)
      · skip
        exfalso; omega
      · skip
        refine rr_aload_n 0 dX6_write_26 rfl ?_
        refine rr_get fX6_10 0 rfl rfl dX6_write_27 ?_
        refine rr_get fX6_87 1 rfl rfl dX6_write_30 ?_
        refine rr_goto 38 dX6_write_33 (by decide) ?_
        exact rr_iret dX6_write_38 rfl rfl ⟨rfl, rfl⟩
    · skip
      exfalso; omega
set_option maxRecDepth 100000 in
set_option maxHeartbeats 1000000 in
theorem c_write_full (E : Ev) (d : Nat) (x s p z a b c f k q o : Nat) (sg nm len : Nat) (tx : Nat → Int) (at_ : Nat) (l : Int) (hl : 32 ≤ l ∧ l ≤ 126) (hn : len = 200) : SP E mX6_write (d + 1) 0 0 [.ref x, .int (zz l)] [(x, ob 6 [.ref s, .ref p, .ref z, .ref a, .ref b, .ref c, .ref f, .ref k, .ref q, .ref o]), (s, ob 3 [.ref sg, .ref nm, .int (zz ↑len), .int (zz ↑at_)]), (sg, aC E 200 tx)] (FP (some (.int (zz (-3)))) [(x, ob 6 [.ref s, .ref p, .ref z, .ref a, .ref b, .ref c, .ref f, .ref k, .ref q, .ref o]), (s, ob 3 [.ref sg, .ref nm, .int (zz ↑len), .int (zz ↑at_)]), (sg, aC E 200 tx)]) := by
  show RR E mX6_write (d + 1) 0 0 0 [(0, .ref x), (1, .int (zz l))] [] [(x, ob 6 [.ref s, .ref p, .ref z, .ref a, .ref b, .ref c, .ref f, .ref k, .ref q, .ref o]), (s, ob 3 [.ref sg, .ref nm, .int (zz ↑len), .int (zz ↑at_)]), (sg, aC E 200 tx)] (FP (some (.int (zz (-3)))) [(x, ob 6 [.ref s, .ref p, .ref z, .ref a, .ref b, .ref c, .ref f, .ref k, .ref q, .ref o]), (s, ob 3 [.ref sg, .ref nm, .int (zz ↑len), .int (zz ↑at_)]), (sg, aC E 200 tx)])
  refine rr_iload_n 1 dX6_write_0 rfl ?_
  refine rr_bipush dX6_write_1 (by decide) ?_
  refine rr_icmp_lt 12 dX6_write_3 (by decide) (by omega) (by omega) (fun c_1 => ?_) (fun c_1 => ?_)
  · skip
    exfalso; omega
  · skip
    refine rr_iload_n 1 dX6_write_6 rfl ?_
    refine rr_bipush dX6_write_7 (by decide) ?_
    refine rr_icmp_le 14 dX6_write_9 (by decide) (by omega) (by omega) (fun c_2 => ?_) (fun c_2 => ?_)
    · skip
      refine rr_aload_n 0 dX6_write_14 rfl ?_
      refine rr_get fX6_10 0 rfl rfl dX6_write_15 ?_
      refine rr_iload_n 1 dX6_write_18 rfl ?_
      refine rr_i2c dX6_write_19 (by omega) ?_
      refine rr_callFi (ws2 := [(x, ob 6 [.ref s, .ref p, .ref z, .ref a, .ref b, .ref c, .ref f, .ref k, .ref q, .ref o]), (s, ob 3 [.ref sg, .ref nm, .int (zz ↑len), .int (zz ↑at_)]), (sg, aC E 200 tx)]) (wr := [(x, ob 6 [.ref s, .ref p, .ref z, .ref a, .ref b, .ref c, .ref f, .ref k, .ref q, .ref o])]) (call_V (q0 := 0) kX6_79 (c_add_n E (d + 0) s sg nm len tx at_ l (by omega)) rfl rfl rfl rfl (by omega) (by decide) (Nat.le_of_ble_eq_true rfl) (Nat.le_of_ble_eq_true rfl) dX6_write_20) [1, 2] [0] [0, 1, 2] rfl rfl rfl rfl rfl rfl rfl ?_
      refine rr_if_eq 36 dX6_write_23 (by decide) (by omega) (fun c_3 => ?_) (fun c_3 => ?_)
      · skip
        refine rr_bipush dX6_write_36 (by decide) ?_
        exact rr_iret dX6_write_38 rfl rfl ⟨rfl, rfl⟩
      · skip
        exfalso; omega
    · skip
      exfalso; omega
set_option maxRecDepth 100000 in
set_option maxHeartbeats 1000000 in
theorem c_wipe (E : Ev) (d : Nat) (x s p z a b c f k q o : Nat) (sg nm len : Nat) (tx : Nat → Int) (at_ : Nat) : SP E mX6_wipe (d + 0) 0 0 [.ref x] [(x, ob 6 [.ref s, .ref p, .ref z, .ref a, .ref b, .ref c, .ref f, .ref k, .ref q, .ref o]), (s, ob 3 [.ref sg, .ref nm, .int (zz ↑len), .int (zz ↑at_)])] (FP (some (.int (zz ↑len))) [(x, ob 6 [.ref s, .ref p, .ref z, .ref a, .ref b, .ref c, .ref f, .ref k, .ref q, .ref o]), (s, ob 3 [.ref sg, .ref nm, .int (zz 0), .int (zz ↑at_)])]) := by
  show RR E mX6_wipe (d + 0) 0 0 0 [(0, .ref x)] [] [(x, ob 6 [.ref s, .ref p, .ref z, .ref a, .ref b, .ref c, .ref f, .ref k, .ref q, .ref o]), (s, ob 3 [.ref sg, .ref nm, .int (zz ↑len), .int (zz ↑at_)])] (FP (some (.int (zz ↑len))) [(x, ob 6 [.ref s, .ref p, .ref z, .ref a, .ref b, .ref c, .ref f, .ref k, .ref q, .ref o]), (s, ob 3 [.ref sg, .ref nm, .int (zz 0), .int (zz ↑at_)])])
  refine rr_aload_n 0 dX6_wipe_0 rfl ?_
  refine rr_get fX6_10 0 rfl rfl dX6_wipe_1 ?_
  refine rr_get fX6_87 1 rfl rfl dX6_wipe_4 ?_
  refine rr_istore_n (lv2 := [(0, .ref x), (1, .int (zz ↑len))]) dX6_wipe_7 (by decide) rfl ?_
  refine rr_aload_n 0 dX6_wipe_8 rfl ?_
  refine rr_get fX6_10 0 rfl rfl dX6_wipe_9 ?_
  refine rr_iconst dX6_wipe_12 ?_
  refine rr_put (ws2 := [(x, ob 6 [.ref s, .ref p, .ref z, .ref a, .ref b, .ref c, .ref f, .ref k, .ref q, .ref o]), (s, ob 3 [.ref sg, .ref nm, .int (zz 0), .int (zz ↑at_)])]) fX6_87 1 rfl rfl rfl (Nat.le_of_ble_eq_true rfl) rfl dX6_wipe_13 ?_
  refine rr_iload_n 1 dX6_wipe_16 rfl ?_
  exact rr_iret dX6_wipe_17 rfl rfl ⟨rfl, rfl⟩
set_option maxRecDepth 100000 in
set_option maxHeartbeats 1000000 in
theorem c_peg (E : Ev) (d : Nat) (x s p z a b c f k q o : Nat) (pK pL pQ pW pX pY pS : Nat) (np nr : Nat) (kd lf qt wd h : Nat → Int) (hp : pOK np kd lf qt wd) (ho : hOK h) (y w : Int) (gy : -2147483648 ≤ y ∧ y < 2147483648) (gw : -2147483648 ≤ w ∧ w < 2147483648) : SP E mX6_peg (d + 3) 0 0 [.ref x, .int (zz y), .int (zz w)] [(x, ob 6 [.ref s, .ref p, .ref z, .ref a, .ref b, .ref c, .ref f, .ref k, .ref q, .ref o]), (p, ob 2 [.ref pK, .ref pL, .ref pQ, .ref pW, .ref pX, .ref pY, .ref pS, .int (zz ↑np), .int (zz ↑nr)]), (pK, aI E 7 kd), (pL, aI E 7 lf), (pQ, aI E 7 qt), (a, hO h)] (FP (some (.int (zz (pegA np kd lf qt h y w)))) [(x, ob 6 [.ref s, .ref p, .ref z, .ref a, .ref b, .ref c, .ref f, .ref k, .ref q, .ref o]), (p, ob 2 [.ref pK, .ref pL, .ref pQ, .ref pW, .ref pX, .ref pY, .ref pS, .int (zz ↑np), .int (zz ↑nr)]), (pK, aI E 7 kd), (pL, aI E 7 lf), (pQ, aI E 7 qt), (a, hO h)]) := by
  show RR E mX6_peg (d + 3) 0 0 0 [(0, .ref x), (1, .int (zz y)), (2, .int (zz w))] [] [(x, ob 6 [.ref s, .ref p, .ref z, .ref a, .ref b, .ref c, .ref f, .ref k, .ref q, .ref o]), (p, ob 2 [.ref pK, .ref pL, .ref pQ, .ref pW, .ref pX, .ref pY, .ref pS, .int (zz ↑np), .int (zz ↑nr)]), (pK, aI E 7 kd), (pL, aI E 7 lf), (pQ, aI E 7 qt), (a, hO h)] (FP (some (.int (zz (pegA np kd lf qt h y w)))) [(x, ob 6 [.ref s, .ref p, .ref z, .ref a, .ref b, .ref c, .ref f, .ref k, .ref q, .ref o]), (p, ob 2 [.ref pK, .ref pL, .ref pQ, .ref pW, .ref pX, .ref pY, .ref pS, .int (zz ↑np), .int (zz ↑nr)]), (pK, aI E 7 kd), (pL, aI E 7 lf), (pQ, aI E 7 qt), (a, hO h)])
  have hn := hp.1
  refine rr_aload_n 0 dX6_peg_0 rfl ?_
  refine rr_get fX6_19 0 rfl rfl dX6_peg_1 ?_
  refine rr_iload_n 1 dX6_peg_4 rfl ?_
  refine rr_callFi (ws2 := [(x, ob 6 [.ref s, .ref p, .ref z, .ref a, .ref b, .ref c, .ref f, .ref k, .ref q, .ref o]), (p, ob 2 [.ref pK, .ref pL, .ref pQ, .ref pW, .ref pX, .ref pY, .ref pS, .int (zz ↑np), .int (zz ↑nr)]), (pK, aI E 7 kd), (pL, aI E 7 lf), (pQ, aI E 7 qt), (a, hO h)]) (wr := [(x, ob 6 [.ref s, .ref p, .ref z, .ref a, .ref b, .ref c, .ref f, .ref k, .ref q, .ref o]), (pK, aI E 7 kd), (pL, aI E 7 lf), (pQ, aI E 7 qt), (a, hO h)]) (call_V (q0 := 0) kX6_104 (c_hasPeg E (d + 2) p pK pL pQ pW pX pY pS np nr y (by omega) (by omega)) rfl rfl rfl rfl (by omega) (by decide) (Nat.le_of_ble_eq_true rfl) (Nat.le_of_ble_eq_true rfl) dX6_peg_5) [1] [0, 2, 3, 4, 5] [0, 5, 1, 2, 3, 4] rfl rfl rfl rfl rfl rfl rfl ?_
  refine rr_if_neD 13 dX6_peg_8 (by decide) (fun c_1 => ?_) (fun c_1 => ?_)
  · skip
    obtain ⟨i, rfl⟩ : ∃ i : Nat, y = (i : Int) := ⟨y.toNat, by omega⟩
    have hi : i < np := by omega
    refine rr_iload_n 2 dX6_peg_13 rfl ?_
    by_cases s_2_0 : w = 0
    · refine rr_tswIn (off := 34) 48 dX6_peg_14 (by omega) (by omega) (by omega) (by rw [s_2_0]; rfl) (by decide) ?_
      refine rr_aload_n 0 dX6_peg_48 rfl ?_
      refine rr_get fX6_19 0 rfl rfl dX6_peg_49 ?_
      refine rr_get fX6_108 1 rfl rfl dX6_peg_52 ?_
      refine rr_iload_n 1 dX6_peg_55 rfl ?_
      refine rr_iald 2 i rfl rfl (by omega) (by omega) dX6_peg_56 ?_
      exact rr_iret dX6_peg_57 rfl rfl ⟨congrArg (fun z => some (Value.int (zz z))) (by simp [pegA, *] <;> omega), rfl⟩
    by_cases s_2_1 : w = 1
    · refine rr_tswIn (off := 44) 58 dX6_peg_14 (by omega) (by omega) (by omega) (by rw [s_2_1]; rfl) (by decide) ?_
      refine rr_aload_n 0 dX6_peg_58 rfl ?_
      refine rr_get fX6_19 0 rfl rfl dX6_peg_59 ?_
      refine rr_get fX6_112 1 rfl rfl dX6_peg_62 ?_
      refine rr_iload_n 1 dX6_peg_65 rfl ?_
      refine rr_iald 3 i rfl rfl (by omega) (by omega) dX6_peg_66 ?_
      exact rr_iret dX6_peg_67 rfl rfl ⟨congrArg (fun z => some (Value.int (zz z))) (by simp [pegA, *] <;> omega), rfl⟩
    by_cases s_2_2 : w = 2
    · refine rr_tswIn (off := 54) 68 dX6_peg_14 (by omega) (by omega) (by omega) (by rw [s_2_2]; rfl) (by decide) ?_
      refine rr_aload_n 0 dX6_peg_68 rfl ?_
      refine rr_get fX6_19 0 rfl rfl dX6_peg_69 ?_
      refine rr_get fX6_115 1 rfl rfl dX6_peg_72 ?_
      refine rr_iload_n 1 dX6_peg_75 rfl ?_
      refine rr_iald 4 i rfl rfl (by omega) (by omega) dX6_peg_76 ?_
      exact rr_iret dX6_peg_77 rfl rfl ⟨congrArg (fun z => some (Value.int (zz z))) (by simp [pegA, *] <;> omega), rfl⟩
    by_cases s_2_3 : w = 3
    · refine rr_tswIn (off := 64) 78 dX6_peg_14 (by omega) (by omega) (by omega) (by rw [s_2_3]; rfl) (by decide) ?_
      refine rr_aload_n 0 dX6_peg_78 rfl ?_
      refine rr_get fX6_19 0 rfl rfl dX6_peg_79 ?_
      refine rr_iload_n 1 dX6_peg_82 rfl ?_
      refine rr_aload_n 0 dX6_peg_83 rfl ?_
      refine rr_get fX6_29 0 rfl rfl dX6_peg_84 ?_
      refine rr_callFi (ws2 := [(x, ob 6 [.ref s, .ref p, .ref z, .ref a, .ref b, .ref c, .ref f, .ref k, .ref q, .ref o]), (p, ob 2 [.ref pK, .ref pL, .ref pQ, .ref pW, .ref pX, .ref pY, .ref pS, .int (zz ↑np), .int (zz ↑nr)]), (pK, aI E 7 kd), (pL, aI E 7 lf), (pQ, aI E 7 qt), (a, hO h)]) (wr := [(x, ob 6 [.ref s, .ref p, .ref z, .ref a, .ref b, .ref c, .ref f, .ref k, .ref q, .ref o]), (pQ, aI E 7 qt)]) (call_V (q0 := 0) kX6_118 (c_liftOf E (d + 0) p pK pL pQ pW pX pY pS np nr a kd lf qt wd h i hp ho (by omega)) rfl rfl rfl rfl (by omega) (by decide) (Nat.le_of_ble_eq_true rfl) (Nat.le_of_ble_eq_true rfl) dX6_peg_87) [1, 2, 3, 5] [0, 4] [0, 2, 3, 4, 1, 5] rfl rfl rfl rfl rfl rfl rfl ?_
      refine rr_bipush dX6_peg_90 (by decide) ?_
      refine rr_iadd dX6_peg_92 ?_
      exact rr_iret dX6_peg_93 rfl rfl ⟨congrArg (fun z => some (Value.int (zz z))) (by simp [pegA, *] <;> omega), rfl⟩
    by_cases s_2_4 : w = 4
    · refine rr_tswIn (off := 80) 94 dX6_peg_14 (by omega) (by omega) (by omega) (by rw [s_2_4]; rfl) (by decide) ?_
      refine rr_aload_n 0 dX6_peg_94 rfl ?_
      refine rr_get fX6_19 0 rfl rfl dX6_peg_95 ?_
      refine rr_iload_n 1 dX6_peg_98 rfl ?_
      refine rr_aload_n 0 dX6_peg_99 rfl ?_
      refine rr_get fX6_29 0 rfl rfl dX6_peg_100 ?_
      refine rr_callFi (ws2 := [(x, ob 6 [.ref s, .ref p, .ref z, .ref a, .ref b, .ref c, .ref f, .ref k, .ref q, .ref o]), (p, ob 2 [.ref pK, .ref pL, .ref pQ, .ref pW, .ref pX, .ref pY, .ref pS, .int (zz ↑np), .int (zz ↑nr)]), (pK, aI E 7 kd), (pL, aI E 7 lf), (pQ, aI E 7 qt), (a, hO h)]) (wr := [(x, ob 6 [.ref s, .ref p, .ref z, .ref a, .ref b, .ref c, .ref f, .ref k, .ref q, .ref o]), (pL, aI E 7 lf)]) (call_V (q0 := 0) kX6_122 (c_quartersOf E (d + 1) p pK pL pQ pW pX pY pS np nr a kd lf qt wd h i hp ho (by omega)) rfl rfl rfl rfl (by omega) (by decide) (Nat.le_of_ble_eq_true rfl) (Nat.le_of_ble_eq_true rfl) dX6_peg_103) [1, 2, 4, 5] [0, 3] [0, 2, 3, 1, 4, 5] rfl rfl rfl rfl rfl rfl rfl ?_
      exact rr_iret dX6_peg_106 rfl rfl ⟨congrArg (fun z => some (Value.int (zz z))) (by simp [pegA, *] <;> omega), rfl⟩
    refine rr_tswOut 107 dX6_peg_14 (by omega) (by omega) (by decide) ?_
    refine rr_iconst dX6_peg_107 ?_
    exact rr_iret dX6_peg_108 rfl rfl ⟨congrArg (fun z => some (Value.int (zz z))) (by simp [pegA, *] <;> omega), rfl⟩
  · skip
    refine rr_iconst dX6_peg_11 ?_
    exact rr_iret dX6_peg_12 rfl rfl ⟨congrArg (fun z => some (Value.int (zz z))) (by simp [pegA, *] <;> omega), rfl⟩
set_option maxRecDepth 100000 in
set_option maxHeartbeats 1000000 in
theorem c_wind (E : Ev) (d : Nat) (x s p z a b c f k q o : Nat) (pK pL pQ pW pX pY pS : Nat) (np nr : Nat) (wd : Nat → Int) (y : Int) (gy : -2147483648 ≤ y ∧ y < 2147483648) : SP E mX6_wind (d + 1) 0 0 [.ref x, .int (zz y)] [(x, ob 6 [.ref s, .ref p, .ref z, .ref a, .ref b, .ref c, .ref f, .ref k, .ref q, .ref o]), (p, ob 2 [.ref pK, .ref pL, .ref pQ, .ref pW, .ref pX, .ref pY, .ref pS, .int (zz ↑np), .int (zz ↑nr)]), (pW, aI E 10 wd)] (FP (some (.int (zz (windA wd y)))) [(x, ob 6 [.ref s, .ref p, .ref z, .ref a, .ref b, .ref c, .ref f, .ref k, .ref q, .ref o]), (p, ob 2 [.ref pK, .ref pL, .ref pQ, .ref pW, .ref pX, .ref pY, .ref pS, .int (zz ↑np), .int (zz ↑nr)]), (pW, aI E 10 wd)]) := by
  show RR E mX6_wind (d + 1) 0 0 0 [(0, .ref x), (1, .int (zz y))] [] [(x, ob 6 [.ref s, .ref p, .ref z, .ref a, .ref b, .ref c, .ref f, .ref k, .ref q, .ref o]), (p, ob 2 [.ref pK, .ref pL, .ref pQ, .ref pW, .ref pX, .ref pY, .ref pS, .int (zz ↑np), .int (zz ↑nr)]), (pW, aI E 10 wd)] (FP (some (.int (zz (windA wd y)))) [(x, ob 6 [.ref s, .ref p, .ref z, .ref a, .ref b, .ref c, .ref f, .ref k, .ref q, .ref o]), (p, ob 2 [.ref pK, .ref pL, .ref pQ, .ref pW, .ref pX, .ref pY, .ref pS, .int (zz ↑np), .int (zz ↑nr)]), (pW, aI E 10 wd)])
  refine rr_iload_n 1 dX6_wind_0 rfl ?_
  refine rr_iconst dX6_wind_1 ?_
  refine rr_icmp_lt 11 dX6_wind_2 (by decide) (by omega) (by omega) (fun c_1 => ?_) (fun c_1 => ?_)
  · skip
    refine rr_iconst dX6_wind_11 ?_
    refine rr_goto 23 dX6_wind_12 (by decide) ?_
    exact rr_iret dX6_wind_23 rfl rfl ⟨congrArg (fun z => some (Value.int (zz z))) (by unfold windA; (repeat' split) <;> first | rfl | omega), rfl⟩
  · skip
    refine rr_iload_n 1 dX6_wind_5 rfl ?_
    refine rr_bipush dX6_wind_6 (by decide) ?_
    refine rr_icmp_le 15 dX6_wind_8 (by decide) (by omega) (by omega) (fun c_2 => ?_) (fun c_2 => ?_)
    · skip
      refine rr_aload_n 0 dX6_wind_15 rfl ?_
      refine rr_get fX6_19 0 rfl rfl dX6_wind_16 ?_
      refine rr_iload_n 1 dX6_wind_19 rfl ?_
      refine rr_callFi (ws2 := [(x, ob 6 [.ref s, .ref p, .ref z, .ref a, .ref b, .ref c, .ref f, .ref k, .ref q, .ref o]), (p, ob 2 [.ref pK, .ref pL, .ref pQ, .ref pW, .ref pX, .ref pY, .ref pS, .int (zz ↑np), .int (zz ↑nr)]), (pW, aI E 10 wd)]) (wr := [(x, ob 6 [.ref s, .ref p, .ref z, .ref a, .ref b, .ref c, .ref f, .ref k, .ref q, .ref o])]) (call_V (q0 := 0) kX6_125 (c_windAt E (d + 0) p pK pL pQ pW pX pY pS np nr wd y (by omega)) rfl rfl rfl rfl (by omega) (by decide) (Nat.le_of_ble_eq_true rfl) (Nat.le_of_ble_eq_true rfl) dX6_wind_20) [1, 2] [0] [0, 1, 2] rfl rfl rfl rfl rfl rfl rfl ?_
      exact rr_iret dX6_wind_23 rfl rfl ⟨congrArg (fun z => some (Value.int (zz z))) (by unfold windA windF; (repeat' split) <;> first | rfl | omega), rfl⟩
    · skip
      refine rr_iconst dX6_wind_11 ?_
      refine rr_goto 23 dX6_wind_12 (by decide) ?_
      exact rr_iret dX6_wind_23 rfl rfl ⟨congrArg (fun z => some (Value.int (zz z))) (by unfold windA; (repeat' split) <;> first | rfl | omega), rfl⟩
set_option maxRecDepth 100000 in
set_option maxHeartbeats 1000000 in
theorem c_roof (E : Ev) (d : Nat) (x s p z a b c f k q o : Nat) (pK pL pQ pW pX pY pS : Nat) (np nr : Nat) (rx ry : Nat → Int) (y w : Int) (hr : nr ≤ 6) (gy : -2147483648 ≤ y ∧ y < 2147483648) (gw : -2147483648 ≤ w ∧ w < 2147483648) : SP E mX6_roof (d + 1) 0 0 [.ref x, .int (zz y), .int (zz w)] [(x, ob 6 [.ref s, .ref p, .ref z, .ref a, .ref b, .ref c, .ref f, .ref k, .ref q, .ref o]), (p, ob 2 [.ref pK, .ref pL, .ref pQ, .ref pW, .ref pX, .ref pY, .ref pS, .int (zz ↑np), .int (zz ↑nr)]), (pX, aI E 6 rx), (pY, aI E 6 ry)] (FP (some (.int (zz (roofA nr rx ry y w)))) [(x, ob 6 [.ref s, .ref p, .ref z, .ref a, .ref b, .ref c, .ref f, .ref k, .ref q, .ref o]), (p, ob 2 [.ref pK, .ref pL, .ref pQ, .ref pW, .ref pX, .ref pY, .ref pS, .int (zz ↑np), .int (zz ↑nr)]), (pX, aI E 6 rx), (pY, aI E 6 ry)]) := by
  show RR E mX6_roof (d + 1) 0 0 0 [(0, .ref x), (1, .int (zz y)), (2, .int (zz w))] [] [(x, ob 6 [.ref s, .ref p, .ref z, .ref a, .ref b, .ref c, .ref f, .ref k, .ref q, .ref o]), (p, ob 2 [.ref pK, .ref pL, .ref pQ, .ref pW, .ref pX, .ref pY, .ref pS, .int (zz ↑np), .int (zz ↑nr)]), (pX, aI E 6 rx), (pY, aI E 6 ry)] (FP (some (.int (zz (roofA nr rx ry y w)))) [(x, ob 6 [.ref s, .ref p, .ref z, .ref a, .ref b, .ref c, .ref f, .ref k, .ref q, .ref o]), (p, ob 2 [.ref pK, .ref pL, .ref pQ, .ref pW, .ref pX, .ref pY, .ref pS, .int (zz ↑np), .int (zz ↑nr)]), (pX, aI E 6 rx), (pY, aI E 6 ry)])
  refine rr_aload_n 0 dX6_roof_0 rfl ?_
  refine rr_get fX6_19 0 rfl rfl dX6_roof_1 ?_
  refine rr_iload_n 1 dX6_roof_4 rfl ?_
  refine rr_callFi (ws2 := [(x, ob 6 [.ref s, .ref p, .ref z, .ref a, .ref b, .ref c, .ref f, .ref k, .ref q, .ref o]), (p, ob 2 [.ref pK, .ref pL, .ref pQ, .ref pW, .ref pX, .ref pY, .ref pS, .int (zz ↑np), .int (zz ↑nr)]), (pX, aI E 6 rx), (pY, aI E 6 ry)]) (wr := [(x, ob 6 [.ref s, .ref p, .ref z, .ref a, .ref b, .ref c, .ref f, .ref k, .ref q, .ref o]), (pX, aI E 6 rx), (pY, aI E 6 ry)]) (call_V (q0 := 0) kX6_129 (c_hasRoof E (d + 0) p pK pL pQ pW pX pY pS np nr y (by omega) (by omega)) rfl rfl rfl rfl (by omega) (by decide) (Nat.le_of_ble_eq_true rfl) (Nat.le_of_ble_eq_true rfl) dX6_roof_5) [1] [0, 2, 3] [0, 3, 1, 2] rfl rfl rfl rfl rfl rfl rfl ?_
  refine rr_if_eqD 20 dX6_roof_8 (by decide) (fun c_1 => ?_) (fun c_1 => ?_)
  · skip
    refine rr_iconst dX6_roof_20 ?_
    exact rr_iret dX6_roof_21 rfl rfl ⟨congrArg (fun z => some (Value.int (zz z))) (by simp [roofA, *] <;> omega), rfl⟩
  · skip
    obtain ⟨i, rfl⟩ : ∃ i : Nat, y = (i : Int) := ⟨y.toNat, by omega⟩
    have hi : i < nr := by omega
    refine rr_iload_n 2 dX6_roof_11 rfl ?_
    refine rr_if_lt 20 dX6_roof_12 (by decide) (by omega) (fun c_2 => ?_) (fun c_2 => ?_)
    · skip
      refine rr_iconst dX6_roof_20 ?_
      exact rr_iret dX6_roof_21 rfl rfl ⟨congrArg (fun z => some (Value.int (zz z))) (by simp [roofA, *] <;> omega), rfl⟩
    · skip
      refine rr_iload_n 2 dX6_roof_15 rfl ?_
      refine rr_iconst dX6_roof_16 ?_
      refine rr_icmp_le 22 dX6_roof_17 (by decide) (by omega) (by omega) (fun c_3 => ?_) (fun c_3 => ?_)
      · skip
        refine rr_iload_n 2 dX6_roof_22 rfl ?_
        refine rr_if_ne 38 dX6_roof_23 (by decide) (by omega) (fun c_4 => ?_) (fun c_4 => ?_)
        · skip
          refine rr_aload_n 0 dX6_roof_38 rfl ?_
          refine rr_get fX6_19 0 rfl rfl dX6_roof_39 ?_
          refine rr_get fX6_135 1 rfl rfl dX6_roof_42 ?_
          refine rr_iload_n 1 dX6_roof_45 rfl ?_
          refine rr_iald 3 i rfl rfl (by omega) (by omega) dX6_roof_46 ?_
          exact rr_iret dX6_roof_47 rfl rfl ⟨congrArg (fun z => some (Value.int (zz z))) (by simp [roofA, *] <;> omega), rfl⟩
        · skip
          refine rr_aload_n 0 dX6_roof_26 rfl ?_
          refine rr_get fX6_19 0 rfl rfl dX6_roof_27 ?_
          refine rr_get fX6_132 1 rfl rfl dX6_roof_30 ?_
          refine rr_iload_n 1 dX6_roof_33 rfl ?_
          refine rr_iald 2 i rfl rfl (by omega) (by omega) dX6_roof_34 ?_
          refine rr_goto 47 dX6_roof_35 (by decide) ?_
          exact rr_iret dX6_roof_47 rfl rfl ⟨congrArg (fun z => some (Value.int (zz z))) (by simp [roofA, *] <;> omega), rfl⟩
      · skip
        refine rr_iconst dX6_roof_20 ?_
        exact rr_iret dX6_roof_21 rfl rfl ⟨congrArg (fun z => some (Value.int (zz z))) (by simp [roofA, *] <;> omega), rfl⟩
set_option maxRecDepth 100000 in
set_option maxHeartbeats 1000000 in
theorem c_now (E : Ev) (d : Nat) (x s p z a b c f k q o : Nat) (pK pL pQ pW pX pY pS : Nat) (np nr : Nat) (rx ry h : Nat → Int) (hr : rOK nr rx ry) (ho : hOK h) (w : Int) (gw : -2147483648 ≤ w ∧ w < 2147483648) : SP E mX6_now (d + 2) 0 0 [.ref x, .int (zz w)] [(x, ob 6 [.ref s, .ref p, .ref z, .ref a, .ref b, .ref c, .ref f, .ref k, .ref q, .ref o]), (p, ob 2 [.ref pK, .ref pL, .ref pQ, .ref pW, .ref pX, .ref pY, .ref pS, .int (zz ↑np), .int (zz ↑nr)]), (pX, aI E 6 rx), (pY, aI E 6 ry), (a, hO h)] (FP (some (.int (zz (nowA nr rx ry h w)))) [(x, ob 6 [.ref s, .ref p, .ref z, .ref a, .ref b, .ref c, .ref f, .ref k, .ref q, .ref o]), (p, ob 2 [.ref pK, .ref pL, .ref pQ, .ref pW, .ref pX, .ref pY, .ref pS, .int (zz ↑np), .int (zz ↑nr)]), (pX, aI E 6 rx), (pY, aI E 6 ry), (a, hO h)]) := by
  show RR E mX6_now (d + 2) 0 0 0 [(0, .ref x), (1, .int (zz w))] [] [(x, ob 6 [.ref s, .ref p, .ref z, .ref a, .ref b, .ref c, .ref f, .ref k, .ref q, .ref o]), (p, ob 2 [.ref pK, .ref pL, .ref pQ, .ref pW, .ref pX, .ref pY, .ref pS, .int (zz ↑np), .int (zz ↑nr)]), (pX, aI E 6 rx), (pY, aI E 6 ry), (a, hO h)] (FP (some (.int (zz (nowA nr rx ry h w)))) [(x, ob 6 [.ref s, .ref p, .ref z, .ref a, .ref b, .ref c, .ref f, .ref k, .ref q, .ref o]), (p, ob 2 [.ref pK, .ref pL, .ref pQ, .ref pW, .ref pX, .ref pY, .ref pS, .int (zz ↑np), .int (zz ↑nr)]), (pX, aI E 6 rx), (pY, aI E 6 ry), (a, hO h)])
  refine rr_iload_n 1 dX6_now_0 rfl ?_
  by_cases s_1_0 : w = 0
  · refine rr_tswIn (off := 51) 52 dX6_now_1 (by omega) (by omega) (by omega) (by rw [s_1_0]; rfl) (by decide) ?_
    refine rr_aload_n 0 dX6_now_52 rfl ?_
    refine rr_get fX6_29 0 rfl rfl dX6_now_53 ?_
    refine rr_get fX6_171 4 rfl rfl dX6_now_56 ?_
    exact rr_iret dX6_now_59 rfl rfl ⟨congrArg (fun z => some (Value.int (zz z))) (by simp [nowA, landF, fallF, bI, *] <;> omega), rfl⟩
  by_cases s_1_1 : w = 1
  · refine rr_tswIn (off := 59) 60 dX6_now_1 (by omega) (by omega) (by omega) (by rw [s_1_1]; rfl) (by decide) ?_
    refine rr_aload_n 0 dX6_now_60 rfl ?_
    refine rr_get fX6_29 0 rfl rfl dX6_now_61 ?_
    refine rr_get fX6_174 4 rfl rfl dX6_now_64 ?_
    exact rr_iret dX6_now_67 rfl rfl ⟨congrArg (fun z => some (Value.int (zz z))) (by simp [nowA, landF, fallF, bI, *] <;> omega), rfl⟩
  by_cases s_1_2 : w = 2
  · refine rr_tswIn (off := 67) 68 dX6_now_1 (by omega) (by omega) (by omega) (by rw [s_1_2]; rfl) (by decide) ?_
    refine rr_aload_n 0 dX6_now_68 rfl ?_
    refine rr_get fX6_29 0 rfl rfl dX6_now_69 ?_
    refine rr_get fX6_149 4 rfl rfl dX6_now_72 ?_
    exact rr_iret dX6_now_75 rfl rfl ⟨congrArg (fun z => some (Value.int (zz z))) (by simp [nowA, landF, fallF, bI, *] <;> omega), rfl⟩
  by_cases s_1_3 : w = 3
  · refine rr_tswIn (off := 75) 76 dX6_now_1 (by omega) (by omega) (by omega) (by rw [s_1_3]; rfl) (by decide) ?_
    refine rr_aload_n 0 dX6_now_76 rfl ?_
    refine rr_get fX6_29 0 rfl rfl dX6_now_77 ?_
    refine rr_get fX6_177 4 rfl rfl dX6_now_80 ?_
    exact rr_iret dX6_now_83 rfl rfl ⟨congrArg (fun z => some (Value.int (zz z))) (by simp [nowA, landF, fallF, bI, *] <;> omega), rfl⟩
  by_cases s_1_4 : w = 4
  · refine rr_tswIn (off := 83) 84 dX6_now_1 (by omega) (by omega) (by omega) (by rw [s_1_4]; rfl) (by decide) ?_
    refine rr_aload_n 0 dX6_now_84 rfl ?_
    refine rr_get fX6_29 0 rfl rfl dX6_now_85 ?_
    refine rr_get fX6_180 4 rfl rfl dX6_now_88 ?_
    exact rr_iret dX6_now_91 rfl rfl ⟨congrArg (fun z => some (Value.int (zz z))) (by simp [nowA, landF, fallF, bI, *] <;> omega), rfl⟩
  by_cases s_1_5 : w = 5
  · refine rr_tswIn (off := 91) 92 dX6_now_1 (by omega) (by omega) (by omega) (by rw [s_1_5]; rfl) (by decide) ?_
    refine rr_aload_n 0 dX6_now_92 rfl ?_
    refine rr_get fX6_29 0 rfl rfl dX6_now_93 ?_
    refine rr_get fX6_158 4 rfl rfl dX6_now_96 ?_
    exact rr_iret dX6_now_99 rfl rfl ⟨congrArg (fun z => some (Value.int (zz z))) (by simp [nowA, landF, fallF, bI, *] <;> omega), rfl⟩
  by_cases s_1_6 : w = 6
  · refine rr_tswIn (off := 99) 100 dX6_now_1 (by omega) (by omega) (by omega) (by rw [s_1_6]; rfl) (by decide) ?_
    refine rr_aload_n 0 dX6_now_100 rfl ?_
    refine rr_get fX6_19 0 rfl rfl dX6_now_101 ?_
    refine rr_aload_n 0 dX6_now_104 rfl ?_
    refine rr_get fX6_29 0 rfl rfl dX6_now_105 ?_
    refine rr_callFi (ws2 := [(x, ob 6 [.ref s, .ref p, .ref z, .ref a, .ref b, .ref c, .ref f, .ref k, .ref q, .ref o]), (p, ob 2 [.ref pK, .ref pL, .ref pQ, .ref pW, .ref pX, .ref pY, .ref pS, .int (zz ↑np), .int (zz ↑nr)]), (pX, aI E 6 rx), (pY, aI E 6 ry), (a, hO h)]) (wr := [(x, ob 6 [.ref s, .ref p, .ref z, .ref a, .ref b, .ref c, .ref f, .ref k, .ref q, .ref o])]) (call_V (q0 := 0) kX6_161 (c_hasLanded E (d + 0) p pK pL pQ pW pX pY pS np nr a rx ry h hr ho) rfl rfl rfl rfl (by omega) (by decide) (Nat.le_of_ble_eq_true rfl) (Nat.le_of_ble_eq_true rfl) dX6_now_108) [1, 2, 3, 4] [0] [0, 1, 2, 3, 4] rfl rfl rfl rfl rfl rfl rfl ?_
    refine rr_if_eqB 118 dX6_now_111 (by decide) (fun c_2 => ?_) (fun c_2 => ?_)
    · skip
      refine rr_iconst dX6_now_118 ?_
      exact rr_iret dX6_now_119 rfl rfl ⟨congrArg (fun z => some (Value.int (zz z))) (by simp [nowA, landF, fallF, bI, *] <;> omega), rfl⟩
    · skip
      refine rr_iconst dX6_now_114 ?_
      refine rr_goto 119 dX6_now_115 (by decide) ?_
      exact rr_iret dX6_now_119 rfl rfl ⟨congrArg (fun z => some (Value.int (zz z))) (by simp [nowA, landF, fallF, bI, *] <;> omega), rfl⟩
  by_cases s_1_7 : w = 7
  · refine rr_tswIn (off := 119) 120 dX6_now_1 (by omega) (by omega) (by omega) (by rw [s_1_7]; rfl) (by decide) ?_
    refine rr_aload_n 0 dX6_now_120 rfl ?_
    refine rr_get fX6_19 0 rfl rfl dX6_now_121 ?_
    refine rr_aload_n 0 dX6_now_124 rfl ?_
    refine rr_get fX6_29 0 rfl rfl dX6_now_125 ?_
    refine rr_callFi (ws2 := [(x, ob 6 [.ref s, .ref p, .ref z, .ref a, .ref b, .ref c, .ref f, .ref k, .ref q, .ref o]), (p, ob 2 [.ref pK, .ref pL, .ref pQ, .ref pW, .ref pX, .ref pY, .ref pS, .int (zz ↑np), .int (zz ↑nr)]), (pX, aI E 6 rx), (pY, aI E 6 ry), (a, hO h)]) (wr := [(x, ob 6 [.ref s, .ref p, .ref z, .ref a, .ref b, .ref c, .ref f, .ref k, .ref q, .ref o])]) (call_V (q0 := 0) kX6_183 (c_hasFallen E (d + 0) p pK pL pQ pW pX pY pS np nr a rx ry h hr ho) rfl rfl rfl rfl (by omega) (by decide) (Nat.le_of_ble_eq_true rfl) (Nat.le_of_ble_eq_true rfl) dX6_now_128) [1, 2, 3, 4] [0] [0, 1, 2, 3, 4] rfl rfl rfl rfl rfl rfl rfl ?_
    refine rr_if_eqB 138 dX6_now_131 (by decide) (fun c_3 => ?_) (fun c_3 => ?_)
    · skip
      refine rr_iconst dX6_now_138 ?_
      exact rr_iret dX6_now_139 rfl rfl ⟨congrArg (fun z => some (Value.int (zz z))) (by simp [nowA, landF, fallF, bI, *] <;> omega), rfl⟩
    · skip
      refine rr_iconst dX6_now_134 ?_
      refine rr_goto 139 dX6_now_135 (by decide) ?_
      exact rr_iret dX6_now_139 rfl rfl ⟨congrArg (fun z => some (Value.int (zz z))) (by simp [nowA, landF, fallF, bI, *] <;> omega), rfl⟩
  by_cases s_1_8 : w = 8
  · refine rr_tswIn (off := 139) 140 dX6_now_1 (by omega) (by omega) (by omega) (by rw [s_1_8]; rfl) (by decide) ?_
    refine rr_aload_n 0 dX6_now_140 rfl ?_
    refine rr_get fX6_29 0 rfl rfl dX6_now_141 ?_
    refine rr_get fX6_165 4 rfl rfl dX6_now_144 ?_
    exact rr_iret dX6_now_147 rfl rfl ⟨congrArg (fun z => some (Value.int (zz z))) (by simp [nowA, landF, fallF, bI, *] <;> omega), rfl⟩
  refine rr_tswOut 148 dX6_now_1 (by omega) (by omega) (by decide) ?_
  refine rr_iconst dX6_now_148 ?_
  exact rr_iret dX6_now_149 rfl rfl ⟨congrArg (fun z => some (Value.int (zz z))) (by simp [nowA, landF, fallF, bI, *] <;> omega), rfl⟩
set_option maxRecDepth 100000 in
set_option maxHeartbeats 1000000 in
theorem c_count (E : Ev) (d : Nat) (x s p z a b c f k q o : Nat) (pK pL pQ pW pX pY pS : Nat) (np nr : Nat) (sg nm len : Nat) (tx : Nat → Int) (at_ : Nat) (ar ar2 sz sz2 qp qc qv ns : Nat) (w : Int) (gw : -2147483648 ≤ w ∧ w < 2147483648) : SP E mX6_count (d + 0) 0 0 [.ref x, .int (zz w)] [(x, ob 6 [.ref s, .ref p, .ref z, .ref a, .ref b, .ref c, .ref f, .ref k, .ref q, .ref o]), (p, ob 2 [.ref pK, .ref pL, .ref pQ, .ref pW, .ref pX, .ref pY, .ref pS, .int (zz ↑np), .int (zz ↑nr)]), (s, ob 3 [.ref sg, .ref nm, .int (zz ↑len), .int (zz ↑at_)]), (f, ob 4 [.ref ar, .int (zz ↑sz)]), (k, ob 4 [.ref ar2, .int (zz ↑sz2)]), (q, ob 5 [.ref qp, .ref qc, .ref qv, .int (zz ↑ns)])] (FP (some (.int (zz (countA np nr ns sz sz2 len w)))) [(x, ob 6 [.ref s, .ref p, .ref z, .ref a, .ref b, .ref c, .ref f, .ref k, .ref q, .ref o]), (p, ob 2 [.ref pK, .ref pL, .ref pQ, .ref pW, .ref pX, .ref pY, .ref pS, .int (zz ↑np), .int (zz ↑nr)]), (s, ob 3 [.ref sg, .ref nm, .int (zz ↑len), .int (zz ↑at_)]), (f, ob 4 [.ref ar, .int (zz ↑sz)]), (k, ob 4 [.ref ar2, .int (zz ↑sz2)]), (q, ob 5 [.ref qp, .ref qc, .ref qv, .int (zz ↑ns)])]) := by
  show RR E mX6_count (d + 0) 0 0 0 [(0, .ref x), (1, .int (zz w))] [] [(x, ob 6 [.ref s, .ref p, .ref z, .ref a, .ref b, .ref c, .ref f, .ref k, .ref q, .ref o]), (p, ob 2 [.ref pK, .ref pL, .ref pQ, .ref pW, .ref pX, .ref pY, .ref pS, .int (zz ↑np), .int (zz ↑nr)]), (s, ob 3 [.ref sg, .ref nm, .int (zz ↑len), .int (zz ↑at_)]), (f, ob 4 [.ref ar, .int (zz ↑sz)]), (k, ob 4 [.ref ar2, .int (zz ↑sz2)]), (q, ob 5 [.ref qp, .ref qc, .ref qv, .int (zz ↑ns)])] (FP (some (.int (zz (countA np nr ns sz sz2 len w)))) [(x, ob 6 [.ref s, .ref p, .ref z, .ref a, .ref b, .ref c, .ref f, .ref k, .ref q, .ref o]), (p, ob 2 [.ref pK, .ref pL, .ref pQ, .ref pW, .ref pX, .ref pY, .ref pS, .int (zz ↑np), .int (zz ↑nr)]), (s, ob 3 [.ref sg, .ref nm, .int (zz ↑len), .int (zz ↑at_)]), (f, ob 4 [.ref ar, .int (zz ↑sz)]), (k, ob 4 [.ref ar2, .int (zz ↑sz2)]), (q, ob 5 [.ref qp, .ref qc, .ref qv, .int (zz ↑ns)])])
  refine rr_iload_n 1 dX6_count_0 rfl ?_
  by_cases s_1_0 : w = 0
  · refine rr_tswIn (off := 39) 40 dX6_count_1 (by omega) (by omega) (by omega) (by rw [s_1_0]; rfl) (by decide) ?_
    refine rr_aload_n 0 dX6_count_40 rfl ?_
    refine rr_get fX6_19 0 rfl rfl dX6_count_41 ?_
    refine rr_get fX6_97 1 rfl rfl dX6_count_44 ?_
    exact rr_iret dX6_count_47 rfl rfl ⟨congrArg (fun z => some (Value.int (zz z))) (by simp [countA, *] <;> omega), rfl⟩
  by_cases s_1_1 : w = 1
  · refine rr_tswIn (off := 47) 48 dX6_count_1 (by omega) (by omega) (by omega) (by rw [s_1_1]; rfl) (by decide) ?_
    refine rr_aload_n 0 dX6_count_48 rfl ?_
    refine rr_get fX6_19 0 rfl rfl dX6_count_49 ?_
    refine rr_get fX6_236 1 rfl rfl dX6_count_52 ?_
    exact rr_iret dX6_count_55 rfl rfl ⟨congrArg (fun z => some (Value.int (zz z))) (by simp [countA, *] <;> omega), rfl⟩
  by_cases s_1_2 : w = 2
  · refine rr_tswIn (off := 55) 56 dX6_count_1 (by omega) (by omega) (by omega) (by rw [s_1_2]; rfl) (by decide) ?_
    refine rr_aload_n 0 dX6_count_56 rfl ?_
    refine rr_get fX6_54 0 rfl rfl dX6_count_57 ?_
    refine rr_get fX6_103 5 rfl rfl dX6_count_60 ?_
    exact rr_iret dX6_count_63 rfl rfl ⟨congrArg (fun z => some (Value.int (zz z))) (by simp [countA, *] <;> omega), rfl⟩
  by_cases s_1_3 : w = 3
  · refine rr_tswIn (off := 63) 64 dX6_count_1 (by omega) (by omega) (by omega) (by rw [s_1_3]; rfl) (by decide) ?_
    refine rr_aload_n 0 dX6_count_64 rfl ?_
    refine rr_get fX6_44 0 rfl rfl dX6_count_65 ?_
    refine rr_get fX6_100 3 rfl rfl dX6_count_68 ?_
    exact rr_iret dX6_count_71 rfl rfl ⟨congrArg (fun z => some (Value.int (zz z))) (by simp [countA, *] <;> omega), rfl⟩
  by_cases s_1_4 : w = 4
  · refine rr_tswIn (off := 71) 72 dX6_count_1 (by omega) (by omega) (by omega) (by rw [s_1_4]; rfl) (by decide) ?_
    refine rr_aload_n 0 dX6_count_72 rfl ?_
    refine rr_get fX6_48 0 rfl rfl dX6_count_73 ?_
    refine rr_get fX6_100 4 rfl rfl dX6_count_76 ?_
    exact rr_iret dX6_count_79 rfl rfl ⟨congrArg (fun z => some (Value.int (zz z))) (by simp [countA, *] <;> omega), rfl⟩
  by_cases s_1_5 : w = 5
  · refine rr_tswIn (off := 79) 80 dX6_count_1 (by omega) (by omega) (by omega) (by rw [s_1_5]; rfl) (by decide) ?_
    refine rr_aload_n 0 dX6_count_80 rfl ?_
    refine rr_get fX6_10 0 rfl rfl dX6_count_81 ?_
    refine rr_get fX6_87 2 rfl rfl dX6_count_84 ?_
    exact rr_iret dX6_count_87 rfl rfl ⟨congrArg (fun z => some (Value.int (zz z))) (by simp [countA, *] <;> omega), rfl⟩
  refine rr_tswOut 88 dX6_count_1 (by omega) (by omega) (by decide) ?_
  refine rr_iconst dX6_count_88 ?_
  exact rr_iret dX6_count_89 rfl rfl ⟨congrArg (fun z => some (Value.int (zz z))) (by simp [countA, *] <;> omega), rfl⟩
set_option maxRecDepth 100000 in
set_option maxHeartbeats 1000000 in
theorem c_forget (E : Ev) (d : Nat) (x s p z a b c f k q o : Nat) (qp qc qv ns : Nat) : SP E mX6_forget (d + 0) 0 0 [.ref x] [(x, ob 6 [.ref s, .ref p, .ref z, .ref a, .ref b, .ref c, .ref f, .ref k, .ref q, .ref o]), (q, ob 5 [.ref qp, .ref qc, .ref qv, .int (zz ↑ns)])] (FP (some (.int (zz ↑ns))) [(x, ob 6 [.ref s, .ref p, .ref z, .ref a, .ref b, .ref c, .ref f, .ref k, .ref q, .ref o]), (q, ob 5 [.ref qp, .ref qc, .ref qv, .int (zz 0)])]) := by
  show RR E mX6_forget (d + 0) 0 0 0 [(0, .ref x)] [] [(x, ob 6 [.ref s, .ref p, .ref z, .ref a, .ref b, .ref c, .ref f, .ref k, .ref q, .ref o]), (q, ob 5 [.ref qp, .ref qc, .ref qv, .int (zz ↑ns)])] (FP (some (.int (zz ↑ns))) [(x, ob 6 [.ref s, .ref p, .ref z, .ref a, .ref b, .ref c, .ref f, .ref k, .ref q, .ref o]), (q, ob 5 [.ref qp, .ref qc, .ref qv, .int (zz 0)])])
  refine rr_aload_n 0 dX6_forget_0 rfl ?_
  refine rr_get fX6_54 0 rfl rfl dX6_forget_1 ?_
  refine rr_get fX6_103 1 rfl rfl dX6_forget_4 ?_
  refine rr_istore_n (lv2 := [(0, .ref x), (1, .int (zz ↑ns))]) dX6_forget_7 (by decide) rfl ?_
  refine rr_aload_n 0 dX6_forget_8 rfl ?_
  refine rr_get fX6_54 0 rfl rfl dX6_forget_9 ?_
  refine rr_iconst dX6_forget_12 ?_
  refine rr_put (ws2 := [(x, ob 6 [.ref s, .ref p, .ref z, .ref a, .ref b, .ref c, .ref f, .ref k, .ref q, .ref o]), (q, ob 5 [.ref qp, .ref qc, .ref qv, .int (zz 0)])]) fX6_103 1 rfl rfl rfl (Nat.le_of_ble_eq_true rfl) rfl dX6_forget_13 ?_
  refine rr_iload_n 1 dX6_forget_16 rfl ?_
  exact rr_iret dX6_forget_17 rfl rfl ⟨rfl, rfl⟩
