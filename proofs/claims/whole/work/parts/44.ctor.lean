theorem narC {x : Int} (h : 0 ≤ x ∧ x < 65536) : narrow .char (.int (zz x)) = .int (zz x) := by
  obtain ⟨n, rfl⟩ : ∃ n : Nat, x = (n : Int) := ⟨x.toNat, by omega⟩
  rw [zz_nat]
  exact (pk_charN (q := n) (by omega)).1
set_option maxRecDepth 100000 in
set_option maxHeartbeats 1000000 in
theorem c_chkN (E : Ev) (d : Nat) (k n : Nat) (hk : k < n) (hn : n < 2147483648) : SP E mJ3_checkIndex_8e157 (d + 1) 0 0 [.int (zz ↑k), .int (zz ↑n), .null] [] (FP (some (.int (zz ↑k))) []) := by
  show RR E mJ3_checkIndex_8e157 (d + 1) 0 0 0 [(0, .int (zz ↑k)), (1, .int (zz ↑n)), (2, .null)] [] [] (FP (some (.int (zz ↑k))) [])
  refine rr_iload_n 0 dJ3_checkIndex_8e157_0 rfl ?_
  refine rr_if_lt 9 dJ3_checkIndex_8e157_1 (by decide) (by omega) (fun c_1 => ?_) (fun c_1 => ?_)
  · skip
    exfalso; omega
  · skip
    refine rr_iload_n 0 dJ3_checkIndex_8e157_4 rfl ?_
    refine rr_iload_n 1 dJ3_checkIndex_8e157_5 rfl ?_
    refine rr_icmp_lt 16 dJ3_checkIndex_8e157_6 (by decide) (by omega) (by omega) (fun c_2 => ?_) (fun c_2 => ?_)
    · skip
      refine rr_iload_n 0 dJ3_checkIndex_8e157_16 rfl ?_
      exact rr_iret dJ3_checkIndex_8e157_17 rfl rfl ⟨rfl, rfl⟩
    · skip
      exfalso; omega
set_option maxRecDepth 100000 in
set_option maxHeartbeats 1000000 in
theorem c_chkR (E : Ev) (d : Nat) (k n t : Nat) (hk : k < n) (hn : n < 2147483648) : SP E mJ3_checkIndex_8e157 (d + 1) 0 0 [.int (zz ↑k), .int (zz ↑n), .ref t] [] (FP (some (.int (zz ↑k))) []) := by
  show RR E mJ3_checkIndex_8e157 (d + 1) 0 0 0 [(0, .int (zz ↑k)), (1, .int (zz ↑n)), (2, .ref t)] [] [] (FP (some (.int (zz ↑k))) [])
  refine rr_iload_n 0 dJ3_checkIndex_8e157_0 rfl ?_
  refine rr_if_lt 9 dJ3_checkIndex_8e157_1 (by decide) (by omega) (fun c_1 => ?_) (fun c_1 => ?_)
  · skip
    exfalso; omega
  · skip
    refine rr_iload_n 0 dJ3_checkIndex_8e157_4 rfl ?_
    refine rr_iload_n 1 dJ3_checkIndex_8e157_5 rfl ?_
    refine rr_icmp_lt 16 dJ3_checkIndex_8e157_6 (by decide) (by omega) (by omega) (fun c_2 => ?_) (fun c_2 => ?_)
    · skip
      refine rr_iload_n 0 dJ3_checkIndex_8e157_16 rfl ?_
      exact rr_iret dJ3_checkIndex_8e157_17 rfl rfl ⟨rfl, rfl⟩
    · skip
      exfalso; omega
set_option maxRecDepth 100000 in
set_option maxHeartbeats 1000000 in
theorem c_chk (E : Ev) (d : Nat) (k n : Nat) (hk : k < n) (hn : n < 2147483648) : SP E mJ0_checkIndex_df160 (d + 2) 0 0 [.int (zz ↑k), .int (zz ↑n)] [] (FP none []) := by
  show RR E mJ0_checkIndex_df160 (d + 2) 0 0 0 [(0, .int (zz ↑k)), (1, .int (zz ↑n))] [] [] (FP none [])
  refine rr_iload_n 0 dJ0_checkIndex_df160_0 rfl ?_
  refine rr_iload_n 1 dJ0_checkIndex_df160_1 rfl ?_
  refine rr_sio rfl dJ0_checkIndex_df160_2 ?_ (fun t => ?_)
  · skip
    refine rr_callFi (ws2 := []) (wr := []) (call_S kJ0_1059 (c_chkN E (d + 0) k n (by omega) (by omega)) rfl (by omega) (by decide) (Nat.le_of_ble_eq_true rfl) (Nat.le_of_ble_eq_true rfl) dJ0_checkIndex_df160_5) [] [] [] rfl rfl rfl rfl rfl rfl rfl ?_
    refine rr_pop dJ0_checkIndex_df160_8 rfl ?_
    exact rr_ret dJ0_checkIndex_df160_9 rfl ⟨rfl, rfl⟩
  · skip
    refine rr_callFi (ws2 := []) (wr := []) (call_S kJ0_1059 (c_chkR E (d + 0) k n t (by omega) (by omega)) rfl (by omega) (by decide) (Nat.le_of_ble_eq_true rfl) (Nat.le_of_ble_eq_true rfl) dJ0_checkIndex_df160_5) [] [] [] rfl rfl rfl rfl rfl rfl rfl ?_
    refine rr_pop dJ0_checkIndex_df160_8 rfl ?_
    exact rr_ret dJ0_checkIndex_df160_9 rfl ⟨rfl, rfl⟩
set_option maxRecDepth 100000 in
set_option maxHeartbeats 1000000 in
theorem c_lat1 (E : Ev) (d : Nat) (k : Nat) (hk : k < 82) : SP E mJ1_charAt_3b067 (d + 3) 0 0 [.ref (eV E 0), .int (zz ↑k)] [] (FP (some (.int (zz (sB k)))) []) := by
  show RR E mJ1_charAt_3b067 (d + 3) 0 0 0 [(0, .ref (eV E 0)), (1, .int (zz ↑k))] [] [] (FP (some (.int (zz (sB k)))) [])
  have hb := sB_rg k hk
  refine rr_iload_n 1 dJ1_charAt_3b067_0 rfl ?_
  refine rr_aload_n 0 dJ1_charAt_3b067_1 rfl ?_
  refine rr_blen dJ1_charAt_3b067_2 ?_
  refine rr_callFv (ws2 := []) (wr := []) (call_S kJ1_9 (c_chk E (d + 0) k 82 (by omega) (by omega)) rfl (by omega) (by decide) (Nat.le_of_ble_eq_true rfl) (Nat.le_of_ble_eq_true rfl) dJ1_charAt_3b067_3) [] [] [] rfl rfl rfl rfl rfl rfl rfl ?_
  refine rr_aload_n 0 dJ1_charAt_3b067_6 rfl ?_
  refine rr_iload_n 1 dJ1_charAt_3b067_7 rfl ?_
  refine rr_bald k rfl (by omega) dJ1_charAt_3b067_8 ?_
  refine rr_sipush dJ1_charAt_3b067_9 (by decide) ?_
  refine rr_iand (r := sB k) 8 dJ1_charAt_3b067_12 (by decide) (by decide +kernel) (by show sB k % 256 = sB k; omega) ?_
  refine rr_i2c dJ1_charAt_3b067_13 (by omega) ?_
  exact rr_iret dJ1_charAt_3b067_14 rfl (narC (by omega)) ⟨rfl, rfl⟩
set_option maxRecDepth 100000 in
set_option maxHeartbeats 1000000 in
theorem c_coder (E : Ev) (d : Nat)  : SP E mJ0_coder_7d493 (d + 0) 0 0 [.ref (eK E 0)] [] (FP (some (.int (zz 0))) []) := by
  show RR E mJ0_coder_7d493 (d + 0) 0 0 0 [(0, .ref (eK E 0))] [] [] (FP (some (.int (zz 0))) [])
  refine rr_scs rfl dJ0_coder_7d493_0 ?_
  refine rr_if_eq 13 dJ0_coder_7d493_3 (by decide) (by omega) (fun c_1 => ?_) (fun c_1 => ?_)
  · skip
    exfalso; omega
  · skip
    refine rr_aload_n 0 dJ0_coder_7d493_6 rfl ?_
    refine rr_scod rfl dJ0_coder_7d493_7 ?_
    refine rr_goto 14 dJ0_coder_7d493_10 (by decide) ?_
    exact rr_iret dJ0_coder_7d493_14 rfl rfl ⟨rfl, rfl⟩
set_option maxRecDepth 100000 in
set_option maxHeartbeats 1000000 in
theorem c_isLat (E : Ev) (d : Nat)  : SP E mJ0_isLatin1_aae02 (d + 0) 0 0 [.ref (eK E 0)] [] (FP (some (.int (zz 1))) []) := by
  show RR E mJ0_isLatin1_aae02 (d + 0) 0 0 0 [(0, .ref (eK E 0))] [] [] (FP (some (.int (zz 1))) [])
  refine rr_scs rfl dJ0_isLatin1_aae02_0 ?_
  refine rr_if_eq 17 dJ0_isLatin1_aae02_3 (by decide) (by omega) (fun c_1 => ?_) (fun c_1 => ?_)
  · skip
    exfalso; omega
  · skip
    refine rr_aload_n 0 dJ0_isLatin1_aae02_6 rfl ?_
    refine rr_scod rfl dJ0_isLatin1_aae02_7 ?_
    refine rr_if_ne 17 dJ0_isLatin1_aae02_10 (by decide) (by omega) (fun c_2 => ?_) (fun c_2 => ?_)
    · skip
      exfalso; omega
    · skip
      refine rr_iconst dJ0_isLatin1_aae02_13 ?_
      refine rr_goto 18 dJ0_isLatin1_aae02_14 (by decide) ?_
      exact rr_iret dJ0_isLatin1_aae02_18 rfl rfl ⟨rfl, rfl⟩
set_option maxRecDepth 100000 in
set_option maxHeartbeats 1000000 in
theorem c_strLen (E : Ev) (d : Nat)  : SP E mJ0_length_8abf5 (d + 1) 0 0 [.ref (eK E 0)] [] (FP (some (.int (zz 82))) []) := by
  show RR E mJ0_length_8abf5 (d + 1) 0 0 0 [(0, .ref (eK E 0))] [] [] (FP (some (.int (zz 82))) [])
  refine rr_aload_n 0 dJ0_length_8abf5_0 rfl ?_
  refine rr_sval rfl dJ0_length_8abf5_1 ?_
  refine rr_blen dJ0_length_8abf5_4 ?_
  refine rr_aload_n 0 dJ0_length_8abf5_5 rfl ?_
  refine rr_callFi (ws2 := []) (wr := []) (call_VS kJ0_335 (c_coder E (d + 0)) rfl rfl (by omega) (by decide) (Nat.le_of_ble_eq_true rfl) (Nat.le_of_ble_eq_true rfl) dJ0_length_8abf5_6) [] [] [] rfl rfl rfl rfl rfl rfl rfl ?_
  refine rr_ishr (n := 82) (k := 0) dJ0_length_8abf5_9 (by omega) (by decide) ?_
  refine rr_top (b := ↑(82 / 1)) rfl ?_
  exact rr_iret dJ0_length_8abf5_10 rfl rfl ⟨rfl, rfl⟩
set_option maxRecDepth 100000 in
set_option maxHeartbeats 1000000 in
theorem c_charAt (E : Ev) (d : Nat) (k : Nat) (hk : k < 82) : SP E mJ0_charAt_5068e (d + 5) 0 0 [.ref (eK E 0), .int (zz ↑k)] [] (FP (some (.int (zz (sB k)))) []) := by
  show RR E mJ0_charAt_5068e (d + 5) 0 0 0 [(0, .ref (eK E 0)), (1, .int (zz ↑k))] [] [] (FP (some (.int (zz (sB k)))) [])
  have hb := sB_rg k hk
  refine rr_aload_n 0 dJ0_charAt_5068e_0 rfl ?_
  refine rr_callFi (ws2 := []) (wr := []) (call_VS kJ0_492 (c_isLat E (d + 4)) rfl rfl (by omega) (by decide) (Nat.le_of_ble_eq_true rfl) (Nat.le_of_ble_eq_true rfl) dJ0_charAt_5068e_1) [] [] [] rfl rfl rfl rfl rfl rfl rfl ?_
  refine rr_if_eq 16 dJ0_charAt_5068e_4 (by decide) (by omega) (fun c_1 => ?_) (fun c_1 => ?_)
  · skip
    exfalso; omega
  · skip
    refine rr_aload_n 0 dJ0_charAt_5068e_7 rfl ?_
    refine rr_sval rfl dJ0_charAt_5068e_8 ?_
    refine rr_iload_n 1 dJ0_charAt_5068e_11 rfl ?_
    refine rr_callFi (ws2 := []) (wr := []) (call_S kJ0_495 (c_lat1 E (d + 1) k (by omega)) rfl (by omega) (by decide) (Nat.le_of_ble_eq_true rfl) (Nat.le_of_ble_eq_true rfl) dJ0_charAt_5068e_12) [] [] [] rfl rfl rfl rfl rfl rfl rfl ?_
    exact rr_iret dJ0_charAt_5068e_15 rfl (narC (by omega)) ⟨rfl, rfl⟩
set_option maxRecDepth 100000 in
set_option maxHeartbeats 1000000 in
theorem c_Hinit (E : Ev) (d : Nat) (a : Nat) : SP E mX0_init (d + 1) 0 0 [.ref a] [(a, hO (fun _ => 0))] (FP none [(a, hO (updI (fun _ => 0) 6 (-4)))]) := by
  show RR E mX0_init (d + 1) 0 0 0 [(0, .ref a)] [] [(a, hO (fun _ => 0))] (FP none [(a, hO (updI (fun _ => 0) 6 (-4)))])
  refine rr_aload_n 0 dX0_init_0 rfl ?_
  refine rr_objI oiX0 (by omega) (Nat.le_of_ble_eq_true rfl) dX0_init_1 ?_
  refine rr_aload_n 0 dX0_init_4 rfl ?_
  refine rr_bipush dX0_init_5 (by decide) ?_
  refine rr_put (ws2 := [(a, hO (updI (fun _ => 0) 6 (-4)))]) fX0_9 0 rfl rfl rfl (Nat.le_of_ble_eq_true rfl) rfl dX0_init_7 ?_
  exact rr_ret dX0_init_10 rfl ⟨rfl, rfl⟩
set_option maxRecDepth 100000 in
set_option maxHeartbeats 1000000 in
theorem c_Sinit (E : Ev) (d : Nat) (a : Nat) : SP E mX3_init (d + 1) 2 204 [.ref a] [(a, ob 3 [.null, .null, .int (zz 0), .int (zz 0)])] (fun v w => v = none ∧ ∃ sg nm : Nat, w = [(a, ob 3 [.ref sg, .ref nm, .int (zz 0), .int (zz 0)]), (sg, aC E 200 (fun _ => 0)), (nm, aI E 4 (fun _ => 0))]) := by
  show RR E mX3_init (d + 1) 2 204 0 [(0, .ref a)] [] [(a, ob 3 [.null, .null, .int (zz 0), .int (zz 0)])] (fun v w => v = none ∧ ∃ sg nm : Nat, w = [(a, ob 3 [.ref sg, .ref nm, .int (zz 0), .int (zz 0)]), (sg, aC E 200 (fun _ => 0)), (nm, aI E 4 (fun _ => 0))])
  refine rr_aload_n 0 dX3_init_0 rfl ?_
  refine rr_objI oiX3 (by omega) (Nat.le_of_ble_eq_true rfl) dX3_init_1 ?_
  refine rr_aload_n 0 dX3_init_4 rfl ?_
  refine rr_sipush dX3_init_5 (by decide) ?_
  refine rr_newC 200 rfl (by decide) (by decide) (by decide) dX3_init_8 (fun q_1 => ?_)
  refine RR.eq (ws2 := [(a, ob 3 [.null, .null, .int (zz 0), .int (zz 0)]), (q_1, aC E 200 (fun _ => 0))]) rfl rfl rfl rfl ?_
  refine rr_putF (ws2 := [(a, ob 3 [.ref q_1, .null, .int (zz 0), .int (zz 0)]), (q_1, aC E 200 (fun _ => 0))]) fX3_9 rfl (fun r h => by cases h; rfl) 0 rfl rfl rfl (Nat.le_of_ble_eq_true rfl) rfl dX3_init_10 ?_
  refine rr_aload_n 0 dX3_init_13 rfl ?_
  refine rr_iconst dX3_init_14 ?_
  refine rr_newI 4 rfl (by decide) (by decide) (by decide) dX3_init_15 (fun q_2 => ?_)
  refine RR.eq (ws2 := [(a, ob 3 [.ref q_1, .null, .int (zz 0), .int (zz 0)]), (q_1, aC E 200 (fun _ => 0)), (q_2, aI E 4 (fun _ => 0))]) rfl rfl rfl rfl ?_
  refine rr_putF (ws2 := [(a, ob 3 [.ref q_1, .ref q_2, .int (zz 0), .int (zz 0)]), (q_1, aC E 200 (fun _ => 0)), (q_2, aI E 4 (fun _ => 0))]) fX3_15 rfl (fun r h => by cases h; rfl) 0 rfl rfl rfl (Nat.le_of_ble_eq_true rfl) rfl dX3_init_17 ?_
  exact rr_ret dX3_init_20 rfl ⟨rfl, q_1, q_2, rfl⟩
set_option maxRecDepth 100000 in
set_option maxHeartbeats 1000000 in
theorem c_Pinit (E : Ev) (d : Nat) (a : Nat) : SP E mX2_init (d + 2) 7 50 [.ref a] [(a, ob 2 [.null, .null, .null, .null, .null, .null, .null, .int (zz 0), .int (zz 0)])] (fun v w => v = none ∧ ∃ pK pL pQ pW pX pY pS : Nat, w = [(a, ob 2 [.ref pK, .ref pL, .ref pQ, .ref pW, .ref pX, .ref pY, .ref pS, .int (zz 0), .int (zz 0)]), (pK, aI E 7 (fun _ => 0)), (pL, aI E 7 (fun _ => 0)), (pQ, aI E 7 (fun _ => 0)), (pW, aI E 10 (fun _ => 0)), (pX, aI E 6 (fun _ => 0)), (pY, aI E 6 (fun _ => 0)), (pS, hO (updI (fun _ => 0) 6 (-4)))]) := by
  show RR E mX2_init (d + 2) 7 50 0 [(0, .ref a)] [] [(a, ob 2 [.null, .null, .null, .null, .null, .null, .null, .int (zz 0), .int (zz 0)])] (fun v w => v = none ∧ ∃ pK pL pQ pW pX pY pS : Nat, w = [(a, ob 2 [.ref pK, .ref pL, .ref pQ, .ref pW, .ref pX, .ref pY, .ref pS, .int (zz 0), .int (zz 0)]), (pK, aI E 7 (fun _ => 0)), (pL, aI E 7 (fun _ => 0)), (pQ, aI E 7 (fun _ => 0)), (pW, aI E 10 (fun _ => 0)), (pX, aI E 6 (fun _ => 0)), (pY, aI E 6 (fun _ => 0)), (pS, hO (updI (fun _ => 0) 6 (-4)))])
  refine rr_aload_n 0 dX2_init_0 rfl ?_
  refine rr_objI oiX2 (by omega) (Nat.le_of_ble_eq_true rfl) dX2_init_1 ?_
  refine rr_aload_n 0 dX2_init_4 rfl ?_
  refine rr_bipush dX2_init_5 (by decide) ?_
  refine rr_newI 7 rfl (by decide) (by decide) (by decide) dX2_init_7 (fun q_1 => ?_)
  refine RR.eq (ws2 := [(a, ob 2 [.null, .null, .null, .null, .null, .null, .null, .int (zz 0), .int (zz 0)]), (q_1, aI E 7 (fun _ => 0))]) rfl rfl rfl rfl ?_
  refine rr_putF (ws2 := [(a, ob 2 [.ref q_1, .null, .null, .null, .null, .null, .null, .int (zz 0), .int (zz 0)]), (q_1, aI E 7 (fun _ => 0))]) fX2_9 rfl (fun r h => by cases h; rfl) 0 rfl rfl rfl (Nat.le_of_ble_eq_true rfl) rfl dX2_init_9 ?_
  refine rr_aload_n 0 dX2_init_12 rfl ?_
  refine rr_bipush dX2_init_13 (by decide) ?_
  refine rr_newI 7 rfl (by decide) (by decide) (by decide) dX2_init_15 (fun q_2 => ?_)
  refine RR.eq (ws2 := [(a, ob 2 [.ref q_1, .null, .null, .null, .null, .null, .null, .int (zz 0), .int (zz 0)]), (q_1, aI E 7 (fun _ => 0)), (q_2, aI E 7 (fun _ => 0))]) rfl rfl rfl rfl ?_
  refine rr_putF (ws2 := [(a, ob 2 [.ref q_1, .ref q_2, .null, .null, .null, .null, .null, .int (zz 0), .int (zz 0)]), (q_1, aI E 7 (fun _ => 0)), (q_2, aI E 7 (fun _ => 0))]) fX2_15 rfl (fun r h => by cases h; rfl) 0 rfl rfl rfl (Nat.le_of_ble_eq_true rfl) rfl dX2_init_17 ?_
  refine rr_aload_n 0 dX2_init_20 rfl ?_
  refine rr_bipush dX2_init_21 (by decide) ?_
  refine rr_newI 7 rfl (by decide) (by decide) (by decide) dX2_init_23 (fun q_3 => ?_)
  refine RR.eq (ws2 := [(a, ob 2 [.ref q_1, .ref q_2, .null, .null, .null, .null, .null, .int (zz 0), .int (zz 0)]), (q_1, aI E 7 (fun _ => 0)), (q_2, aI E 7 (fun _ => 0)), (q_3, aI E 7 (fun _ => 0))]) rfl rfl rfl rfl ?_
  refine rr_putF (ws2 := [(a, ob 2 [.ref q_1, .ref q_2, .ref q_3, .null, .null, .null, .null, .int (zz 0), .int (zz 0)]), (q_1, aI E 7 (fun _ => 0)), (q_2, aI E 7 (fun _ => 0)), (q_3, aI E 7 (fun _ => 0))]) fX2_18 rfl (fun r h => by cases h; rfl) 0 rfl rfl rfl (Nat.le_of_ble_eq_true rfl) rfl dX2_init_25 ?_
  refine rr_aload_n 0 dX2_init_28 rfl ?_
  refine rr_bipush dX2_init_29 (by decide) ?_
  refine rr_newI 10 rfl (by decide) (by decide) (by decide) dX2_init_31 (fun q_4 => ?_)
  refine RR.eq (ws2 := [(a, ob 2 [.ref q_1, .ref q_2, .ref q_3, .null, .null, .null, .null, .int (zz 0), .int (zz 0)]), (q_1, aI E 7 (fun _ => 0)), (q_2, aI E 7 (fun _ => 0)), (q_3, aI E 7 (fun _ => 0)), (q_4, aI E 10 (fun _ => 0))]) rfl rfl rfl rfl ?_
  refine rr_putF (ws2 := [(a, ob 2 [.ref q_1, .ref q_2, .ref q_3, .ref q_4, .null, .null, .null, .int (zz 0), .int (zz 0)]), (q_1, aI E 7 (fun _ => 0)), (q_2, aI E 7 (fun _ => 0)), (q_3, aI E 7 (fun _ => 0)), (q_4, aI E 10 (fun _ => 0))]) fX2_21 rfl (fun r h => by cases h; rfl) 0 rfl rfl rfl (Nat.le_of_ble_eq_true rfl) rfl dX2_init_33 ?_
  refine rr_aload_n 0 dX2_init_36 rfl ?_
  refine rr_bipush dX2_init_37 (by decide) ?_
  refine rr_newI 6 rfl (by decide) (by decide) (by decide) dX2_init_39 (fun q_5 => ?_)
  refine RR.eq (ws2 := [(a, ob 2 [.ref q_1, .ref q_2, .ref q_3, .ref q_4, .null, .null, .null, .int (zz 0), .int (zz 0)]), (q_1, aI E 7 (fun _ => 0)), (q_2, aI E 7 (fun _ => 0)), (q_3, aI E 7 (fun _ => 0)), (q_4, aI E 10 (fun _ => 0)), (q_5, aI E 6 (fun _ => 0))]) rfl rfl rfl rfl ?_
  refine rr_putF (ws2 := [(a, ob 2 [.ref q_1, .ref q_2, .ref q_3, .ref q_4, .ref q_5, .null, .null, .int (zz 0), .int (zz 0)]), (q_1, aI E 7 (fun _ => 0)), (q_2, aI E 7 (fun _ => 0)), (q_3, aI E 7 (fun _ => 0)), (q_4, aI E 10 (fun _ => 0)), (q_5, aI E 6 (fun _ => 0))]) fX2_24 rfl (fun r h => by cases h; rfl) 0 rfl rfl rfl (Nat.le_of_ble_eq_true rfl) rfl dX2_init_41 ?_
  refine rr_aload_n 0 dX2_init_44 rfl ?_
  refine rr_bipush dX2_init_45 (by decide) ?_
  refine rr_newI 6 rfl (by decide) (by decide) (by decide) dX2_init_47 (fun q_6 => ?_)
  refine RR.eq (ws2 := [(a, ob 2 [.ref q_1, .ref q_2, .ref q_3, .ref q_4, .ref q_5, .null, .null, .int (zz 0), .int (zz 0)]), (q_1, aI E 7 (fun _ => 0)), (q_2, aI E 7 (fun _ => 0)), (q_3, aI E 7 (fun _ => 0)), (q_4, aI E 10 (fun _ => 0)), (q_5, aI E 6 (fun _ => 0)), (q_6, aI E 6 (fun _ => 0))]) rfl rfl rfl rfl ?_
  refine rr_putF (ws2 := [(a, ob 2 [.ref q_1, .ref q_2, .ref q_3, .ref q_4, .ref q_5, .ref q_6, .null, .int (zz 0), .int (zz 0)]), (q_1, aI E 7 (fun _ => 0)), (q_2, aI E 7 (fun _ => 0)), (q_3, aI E 7 (fun _ => 0)), (q_4, aI E 10 (fun _ => 0)), (q_5, aI E 6 (fun _ => 0)), (q_6, aI E 6 (fun _ => 0))]) fX2_27 rfl (fun r h => by cases h; rfl) 0 rfl rfl rfl (Nat.le_of_ble_eq_true rfl) rfl dX2_init_49 ?_
  refine rr_aload_n 0 dX2_init_52 rfl ?_
  refine rr_new nX2_30 (by decide) (by decide) dX2_init_53 (fun q_7 => ?_)
  refine RR.eq (ws2 := [(a, ob 2 [.ref q_1, .ref q_2, .ref q_3, .ref q_4, .ref q_5, .ref q_6, .null, .int (zz 0), .int (zz 0)]), (q_1, aI E 7 (fun _ => 0)), (q_2, aI E 7 (fun _ => 0)), (q_3, aI E 7 (fun _ => 0)), (q_4, aI E 10 (fun _ => 0)), (q_5, aI E 6 (fun _ => 0)), (q_6, aI E 6 (fun _ => 0)), (q_7, hO (fun _ => 0))]) rfl rfl rfl rfl ?_
  refine rr_dup dX2_init_56 rfl ?_
  refine rr_callFv (ws2 := [(a, ob 2 [.ref q_1, .ref q_2, .ref q_3, .ref q_4, .ref q_5, .ref q_6, .null, .int (zz 0), .int (zz 0)]), (q_1, aI E 7 (fun _ => 0)), (q_2, aI E 7 (fun _ => 0)), (q_3, aI E 7 (fun _ => 0)), (q_4, aI E 10 (fun _ => 0)), (q_5, aI E 6 (fun _ => 0)), (q_6, aI E 6 (fun _ => 0)), (q_7, hO (updI (fun _ => 0) 6 (-4)))]) (wr := [(a, ob 2 [.ref q_1, .ref q_2, .ref q_3, .ref q_4, .ref q_5, .ref q_6, .null, .int (zz 0), .int (zz 0)]), (q_1, aI E 7 (fun _ => 0)), (q_2, aI E 7 (fun _ => 0)), (q_3, aI E 7 (fun _ => 0)), (q_4, aI E 10 (fun _ => 0)), (q_5, aI E 6 (fun _ => 0)), (q_6, aI E 6 (fun _ => 0))]) (call_IN kX2_32 (c_Hinit E (d + 0) q_7) rfl (by omega) (by decide) (Nat.le_of_ble_eq_true rfl) (Nat.le_of_ble_eq_true rfl) dX2_init_57) [7] [0, 1, 2, 3, 4, 5, 6] [0, 1, 2, 3, 4, 5, 6, 7] rfl rfl rfl rfl rfl rfl rfl ?_
  refine rr_putF (ws2 := [(a, ob 2 [.ref q_1, .ref q_2, .ref q_3, .ref q_4, .ref q_5, .ref q_6, .ref q_7, .int (zz 0), .int (zz 0)]), (q_1, aI E 7 (fun _ => 0)), (q_2, aI E 7 (fun _ => 0)), (q_3, aI E 7 (fun _ => 0)), (q_4, aI E 10 (fun _ => 0)), (q_5, aI E 6 (fun _ => 0)), (q_6, aI E 6 (fun _ => 0)), (q_7, hO (updI (fun _ => 0) 6 (-4)))]) fX2_33 rfl (fun r h => by cases h; rfl) 0 rfl rfl rfl (Nat.le_of_ble_eq_true rfl) rfl dX2_init_60 ?_
  exact rr_ret dX2_init_63 rfl ⟨rfl, q_1, q_2, q_3, q_4, q_5, q_6, q_7, rfl⟩
set_option maxRecDepth 100000 in
set_option maxHeartbeats 1000000 in
theorem c_Qinit (E : Ev) (d : Nat) (a : Nat) : SP E mX5_init (d + 1) 3 18 [.ref a] [(a, ob 5 [.null, .null, .null, .int (zz 0)])] (fun v w => v = none ∧ ∃ qp qc qv : Nat, w = [(a, ob 5 [.ref qp, .ref qc, .ref qv, .int (zz 0)]), (qp, aI E 6 (fun _ => 0)), (qc, aI E 6 (fun _ => 0)), (qv, aI E 6 (fun _ => 0))]) := by
  show RR E mX5_init (d + 1) 3 18 0 [(0, .ref a)] [] [(a, ob 5 [.null, .null, .null, .int (zz 0)])] (fun v w => v = none ∧ ∃ qp qc qv : Nat, w = [(a, ob 5 [.ref qp, .ref qc, .ref qv, .int (zz 0)]), (qp, aI E 6 (fun _ => 0)), (qc, aI E 6 (fun _ => 0)), (qv, aI E 6 (fun _ => 0))])
  refine rr_aload_n 0 dX5_init_0 rfl ?_
  refine rr_objI oiX5 (by omega) (Nat.le_of_ble_eq_true rfl) dX5_init_1 ?_
  refine rr_aload_n 0 dX5_init_4 rfl ?_
  refine rr_bipush dX5_init_5 (by decide) ?_
  refine rr_newI 6 rfl (by decide) (by decide) (by decide) dX5_init_7 (fun q_1 => ?_)
  refine RR.eq (ws2 := [(a, ob 5 [.null, .null, .null, .int (zz 0)]), (q_1, aI E 6 (fun _ => 0))]) rfl rfl rfl rfl ?_
  refine rr_putF (ws2 := [(a, ob 5 [.ref q_1, .null, .null, .int (zz 0)]), (q_1, aI E 6 (fun _ => 0))]) fX5_9 rfl (fun r h => by cases h; rfl) 0 rfl rfl rfl (Nat.le_of_ble_eq_true rfl) rfl dX5_init_9 ?_
  refine rr_aload_n 0 dX5_init_12 rfl ?_
  refine rr_bipush dX5_init_13 (by decide) ?_
  refine rr_newI 6 rfl (by decide) (by decide) (by decide) dX5_init_15 (fun q_2 => ?_)
  refine RR.eq (ws2 := [(a, ob 5 [.ref q_1, .null, .null, .int (zz 0)]), (q_1, aI E 6 (fun _ => 0)), (q_2, aI E 6 (fun _ => 0))]) rfl rfl rfl rfl ?_
  refine rr_putF (ws2 := [(a, ob 5 [.ref q_1, .ref q_2, .null, .int (zz 0)]), (q_1, aI E 6 (fun _ => 0)), (q_2, aI E 6 (fun _ => 0))]) fX5_15 rfl (fun r h => by cases h; rfl) 0 rfl rfl rfl (Nat.le_of_ble_eq_true rfl) rfl dX5_init_17 ?_
  refine rr_aload_n 0 dX5_init_20 rfl ?_
  refine rr_bipush dX5_init_21 (by decide) ?_
  refine rr_newI 6 rfl (by decide) (by decide) (by decide) dX5_init_23 (fun q_3 => ?_)
  refine RR.eq (ws2 := [(a, ob 5 [.ref q_1, .ref q_2, .null, .int (zz 0)]), (q_1, aI E 6 (fun _ => 0)), (q_2, aI E 6 (fun _ => 0)), (q_3, aI E 6 (fun _ => 0))]) rfl rfl rfl rfl ?_
  refine rr_putF (ws2 := [(a, ob 5 [.ref q_1, .ref q_2, .ref q_3, .int (zz 0)]), (q_1, aI E 6 (fun _ => 0)), (q_2, aI E 6 (fun _ => 0)), (q_3, aI E 6 (fun _ => 0))]) fX5_18 rfl (fun r h => by cases h; rfl) 0 rfl rfl rfl (Nat.le_of_ble_eq_true rfl) rfl dX5_init_25 ?_
  exact rr_ret dX5_init_28 rfl ⟨rfl, q_1, q_2, q_3, rfl⟩
set_option maxRecDepth 100000 in
set_option maxHeartbeats 1000000 in
theorem c_Oinit (E : Ev) (d : Nat) (a p : Nat) : SP E mX1_init (d + 2) 3 8257 [.ref a, .ref p] [(a, ob 1 [.null, .null, .null, .null, .int (zz 0), .int (zz 0)])] (fun v w => v = none ∧ ∃ fl ln mt : Nat, w = [(a, ob 1 [.ref p, .ref fl, .ref ln, .ref mt, .int (zz 0), .int (zz 0)]), (fl, hO (updI (fun _ => 0) 6 (-4))), (ln, aI E 8000 (fun _ => 0)), (mt, aI E 250 (fun _ => 0))]) := by
  show RR E mX1_init (d + 2) 3 8257 0 [(0, .ref a), (1, .ref p)] [] [(a, ob 1 [.null, .null, .null, .null, .int (zz 0), .int (zz 0)])] (fun v w => v = none ∧ ∃ fl ln mt : Nat, w = [(a, ob 1 [.ref p, .ref fl, .ref ln, .ref mt, .int (zz 0), .int (zz 0)]), (fl, hO (updI (fun _ => 0) 6 (-4))), (ln, aI E 8000 (fun _ => 0)), (mt, aI E 250 (fun _ => 0))])
  refine rr_aload_n 0 dX1_init_0 rfl ?_
  refine rr_objI oiX1 (by omega) (Nat.le_of_ble_eq_true rfl) dX1_init_1 ?_
  refine rr_aload_n 0 dX1_init_4 rfl ?_
  refine rr_new nX1_9 (by decide) (by decide) dX1_init_5 (fun q_1 => ?_)
  refine RR.eq (ws2 := [(a, ob 1 [.null, .null, .null, .null, .int (zz 0), .int (zz 0)]), (q_1, hO (fun _ => 0))]) rfl rfl rfl rfl ?_
  refine rr_dup dX1_init_8 rfl ?_
  refine rr_callFv (ws2 := [(a, ob 1 [.null, .null, .null, .null, .int (zz 0), .int (zz 0)]), (q_1, hO (updI (fun _ => 0) 6 (-4)))]) (wr := [(a, ob 1 [.null, .null, .null, .null, .int (zz 0), .int (zz 0)])]) (call_IN kX1_11 (c_Hinit E (d + 0) q_1) rfl (by omega) (by decide) (Nat.le_of_ble_eq_true rfl) (Nat.le_of_ble_eq_true rfl) dX1_init_9) [1] [0] [0, 1] rfl rfl rfl rfl rfl rfl rfl ?_
  refine rr_putF (ws2 := [(a, ob 1 [.null, .ref q_1, .null, .null, .int (zz 0), .int (zz 0)]), (q_1, hO (updI (fun _ => 0) 6 (-4)))]) fX1_12 rfl (fun r h => by cases h; rfl) 0 rfl rfl rfl (Nat.le_of_ble_eq_true rfl) rfl dX1_init_12 ?_
  refine rr_aload_n 0 dX1_init_15 rfl ?_
  refine rr_sipush dX1_init_16 (by decide) ?_
  refine rr_newI 8000 rfl (by decide) (by decide) (by decide) dX1_init_19 (fun q_2 => ?_)
  refine RR.eq (ws2 := [(a, ob 1 [.null, .ref q_1, .null, .null, .int (zz 0), .int (zz 0)]), (q_1, hO (updI (fun _ => 0) 6 (-4))), (q_2, aI E 8000 (fun _ => 0))]) rfl rfl rfl rfl ?_
  refine rr_putF (ws2 := [(a, ob 1 [.null, .ref q_1, .ref q_2, .null, .int (zz 0), .int (zz 0)]), (q_1, hO (updI (fun _ => 0) 6 (-4))), (q_2, aI E 8000 (fun _ => 0))]) fX1_18 rfl (fun r h => by cases h; rfl) 0 rfl rfl rfl (Nat.le_of_ble_eq_true rfl) rfl dX1_init_21 ?_
  refine rr_aload_n 0 dX1_init_24 rfl ?_
  refine rr_sipush dX1_init_25 (by decide) ?_
  refine rr_newI 250 rfl (by decide) (by decide) (by decide) dX1_init_28 (fun q_3 => ?_)
  refine RR.eq (ws2 := [(a, ob 1 [.null, .ref q_1, .ref q_2, .null, .int (zz 0), .int (zz 0)]), (q_1, hO (updI (fun _ => 0) 6 (-4))), (q_2, aI E 8000 (fun _ => 0)), (q_3, aI E 250 (fun _ => 0))]) rfl rfl rfl rfl ?_
  refine rr_putF (ws2 := [(a, ob 1 [.null, .ref q_1, .ref q_2, .ref q_3, .int (zz 0), .int (zz 0)]), (q_1, hO (updI (fun _ => 0) 6 (-4))), (q_2, aI E 8000 (fun _ => 0)), (q_3, aI E 250 (fun _ => 0))]) fX1_22 rfl (fun r h => by cases h; rfl) 0 rfl rfl rfl (Nat.le_of_ble_eq_true rfl) rfl dX1_init_30 ?_
  refine rr_aload_n 0 dX1_init_33 rfl ?_
  refine rr_aload_n 1 dX1_init_34 rfl ?_
  refine rr_putF (ws2 := [(a, ob 1 [.ref p, .ref q_1, .ref q_2, .ref q_3, .int (zz 0), .int (zz 0)]), (q_1, hO (updI (fun _ => 0) 6 (-4))), (q_2, aI E 8000 (fun _ => 0)), (q_3, aI E 250 (fun _ => 0))]) fX1_25 rfl (fun r h => by cases h; rfl) 0 rfl rfl rfl (Nat.le_of_ble_eq_true rfl) rfl dX1_init_35 ?_
  exact rr_ret dX1_init_38 rfl ⟨rfl, q_1, q_2, q_3, rfl⟩
set_option maxRecDepth 100000 in
set_option maxHeartbeats 1000000 in
theorem c_Shinit8 (E : Ev) (d : Nat) (a : Nat) : SP E mX4_init (d + 2) 9 64 [.ref a, .int (zz 8)] [(a, ob 4 [.null, .int (zz 0)])] (fun v w => v = none ∧ ∃ (ar : Nat) (u : Nat → Nat), w = [(a, ob 4 [.ref ar, .int (zz 0)]), (ar, aH E 8 (fun i => some (u i))), ((u 0), hO (updI (fun _ => 0) 6 (-4))), ((u 1), hO (updI (fun _ => 0) 6 (-4))), ((u 2), hO (updI (fun _ => 0) 6 (-4))), ((u 3), hO (updI (fun _ => 0) 6 (-4))), ((u 4), hO (updI (fun _ => 0) 6 (-4))), ((u 5), hO (updI (fun _ => 0) 6 (-4))), ((u 6), hO (updI (fun _ => 0) 6 (-4))), ((u 7), hO (updI (fun _ => 0) 6 (-4)))]) := by
  show RR E mX4_init (d + 2) 9 64 0 [(0, .ref a), (1, .int (zz 8))] [] [(a, ob 4 [.null, .int (zz 0)])] (fun v w => v = none ∧ ∃ (ar : Nat) (u : Nat → Nat), w = [(a, ob 4 [.ref ar, .int (zz 0)]), (ar, aH E 8 (fun i => some (u i))), ((u 0), hO (updI (fun _ => 0) 6 (-4))), ((u 1), hO (updI (fun _ => 0) 6 (-4))), ((u 2), hO (updI (fun _ => 0) 6 (-4))), ((u 3), hO (updI (fun _ => 0) 6 (-4))), ((u 4), hO (updI (fun _ => 0) 6 (-4))), ((u 5), hO (updI (fun _ => 0) 6 (-4))), ((u 6), hO (updI (fun _ => 0) 6 (-4))), ((u 7), hO (updI (fun _ => 0) 6 (-4)))])
  refine rr_aload_n 0 dX4_init_0 rfl ?_
  refine rr_objI oiX4 (by omega) (Nat.le_of_ble_eq_true rfl) dX4_init_1 ?_
  refine rr_aload_n 0 dX4_init_4 rfl ?_
  refine rr_iconst dX4_init_5 ?_
  refine rr_iload_n 1 dX4_init_6 rfl ?_
  refine rr_max (r := 8) mmX4 (by omega) (Nat.le_of_ble_eq_true rfl) (by decide) dX4_init_7 ?_
  refine rr_newH 8 clX4_13 rfl (by decide) (by decide) (by decide) dX4_init_10 (fun q_1 => ?_)
  refine RR.eq (ws2 := [(a, ob 4 [.null, .int (zz 0)]), (q_1, aH E 8 (fun _ => none))]) rfl rfl rfl rfl ?_
  refine rr_putF (ws2 := [(a, ob 4 [.ref q_1, .int (zz 0)]), (q_1, aH E 8 (fun _ => none))]) fX4_15 rfl (fun r h => by cases h; rfl) 0 rfl rfl rfl (Nat.le_of_ble_eq_true rfl) rfl dX4_init_13 ?_
  refine rr_iconst dX4_init_16 ?_
  refine rr_istore_n (lv2 := [(0, .ref a), (1, .int (zz 8)), (2, .int (zz 0))]) dX4_init_17 (by decide) rfl ?_
  refine rr_iload_n 2 dX4_init_18 rfl ?_
  refine rr_aload_n 0 dX4_init_19 rfl ?_
  refine rr_get fX4_15 0 rfl rfl dX4_init_20 ?_
  refine rr_alenH 1 rfl dX4_init_23 ?_
  refine rr_icmp_ge 46 dX4_init_24 (by decide) (by omega) (by omega) (fun c_1 => ?_) (fun c_1 => ?_)
  · skip
    exfalso; omega
  · skip
    refine rr_aload_n 0 dX4_init_27 rfl ?_
    refine rr_get fX4_15 0 rfl rfl dX4_init_28 ?_
    refine rr_iload_n 2 dX4_init_31 rfl ?_
    refine rr_new nX4_13 (by decide) (by decide) dX4_init_32 (fun q_2 => ?_)
    refine RR.eq (ws2 := [(a, ob 4 [.ref q_1, .int (zz 0)]), (q_1, aH E 8 (fun _ => none)), (q_2, hO (fun _ => 0))]) rfl rfl rfl rfl ?_
    refine rr_dup dX4_init_35 rfl ?_
    refine rr_callFv (ws2 := [(a, ob 4 [.ref q_1, .int (zz 0)]), (q_1, aH E 8 (fun _ => none)), (q_2, hO (updI (fun _ => 0) 6 (-4)))]) (wr := [(a, ob 4 [.ref q_1, .int (zz 0)]), (q_1, aH E 8 (fun _ => none))]) (call_IN kX4_21 (c_Hinit E (d + 0) q_2) rfl (by omega) (by decide) (Nat.le_of_ble_eq_true rfl) (Nat.le_of_ble_eq_true rfl) dX4_init_36) [2] [0, 1] [0, 1, 2] rfl rfl rfl rfl rfl rfl rfl ?_
    refine rr_aast (ws2 := [(a, ob 4 [.ref q_1, .int (zz 0)]), (q_1, aH E 8 (va_up (fun _ => none) 0 (some q_2))), (q_2, hO (updI (fun _ => 0) 6 (-4)))]) 1 0 2 rfl rfl rfl (by omega) (by omega) rfl dX4_init_39 ?_
    refine rr_iinc (lv2 := [(0, .ref a), (1, .int (zz 8)), (2, .int (zz 1))]) 2 dX4_init_40 rfl (by decide) rfl ?_
    refine rr_goto 18 dX4_init_43 (by decide) ?_
    refine rr_iload_n 2 dX4_init_18 rfl ?_
    refine rr_aload_n 0 dX4_init_19 rfl ?_
    refine rr_get fX4_15 0 rfl rfl dX4_init_20 ?_
    refine rr_alenH 1 rfl dX4_init_23 ?_
    refine rr_icmp_ge 46 dX4_init_24 (by decide) (by omega) (by omega) (fun c_2 => ?_) (fun c_2 => ?_)
    · skip
      exfalso; omega
    · skip
      refine rr_aload_n 0 dX4_init_27 rfl ?_
      refine rr_get fX4_15 0 rfl rfl dX4_init_28 ?_
      refine rr_iload_n 2 dX4_init_31 rfl ?_
      refine rr_new nX4_13 (by decide) (by decide) dX4_init_32 (fun q_3 => ?_)
      refine RR.eq (ws2 := [(a, ob 4 [.ref q_1, .int (zz 0)]), (q_1, aH E 8 (va_up (fun _ => none) 0 (some q_2))), (q_2, hO (updI (fun _ => 0) 6 (-4))), (q_3, hO (fun _ => 0))]) rfl rfl rfl rfl ?_
      refine rr_dup dX4_init_35 rfl ?_
      refine rr_callFv (ws2 := [(a, ob 4 [.ref q_1, .int (zz 0)]), (q_1, aH E 8 (va_up (fun _ => none) 0 (some q_2))), (q_2, hO (updI (fun _ => 0) 6 (-4))), (q_3, hO (updI (fun _ => 0) 6 (-4)))]) (wr := [(a, ob 4 [.ref q_1, .int (zz 0)]), (q_1, aH E 8 (va_up (fun _ => none) 0 (some q_2))), (q_2, hO (updI (fun _ => 0) 6 (-4)))]) (call_IN kX4_21 (c_Hinit E (d + 0) q_3) rfl (by omega) (by decide) (Nat.le_of_ble_eq_true rfl) (Nat.le_of_ble_eq_true rfl) dX4_init_36) [3] [0, 1, 2] [0, 1, 2, 3] rfl rfl rfl rfl rfl rfl rfl ?_
      refine rr_aast (ws2 := [(a, ob 4 [.ref q_1, .int (zz 0)]), (q_1, aH E 8 (va_up (va_up (fun _ => none) 0 (some q_2)) 1 (some q_3))), (q_2, hO (updI (fun _ => 0) 6 (-4))), (q_3, hO (updI (fun _ => 0) 6 (-4)))]) 1 1 3 rfl rfl rfl (by omega) (by omega) rfl dX4_init_39 ?_
      refine rr_iinc (lv2 := [(0, .ref a), (1, .int (zz 8)), (2, .int (zz 2))]) 2 dX4_init_40 rfl (by decide) rfl ?_
      refine rr_goto 18 dX4_init_43 (by decide) ?_
      refine rr_iload_n 2 dX4_init_18 rfl ?_
      refine rr_aload_n 0 dX4_init_19 rfl ?_
      refine rr_get fX4_15 0 rfl rfl dX4_init_20 ?_
      refine rr_alenH 1 rfl dX4_init_23 ?_
      refine rr_icmp_ge 46 dX4_init_24 (by decide) (by omega) (by omega) (fun c_3 => ?_) (fun c_3 => ?_)
      · skip
        exfalso; omega
      · skip
        refine rr_aload_n 0 dX4_init_27 rfl ?_
        refine rr_get fX4_15 0 rfl rfl dX4_init_28 ?_
        refine rr_iload_n 2 dX4_init_31 rfl ?_
        refine rr_new nX4_13 (by decide) (by decide) dX4_init_32 (fun q_4 => ?_)
        refine RR.eq (ws2 := [(a, ob 4 [.ref q_1, .int (zz 0)]), (q_1, aH E 8 (va_up (va_up (fun _ => none) 0 (some q_2)) 1 (some q_3))), (q_2, hO (updI (fun _ => 0) 6 (-4))), (q_3, hO (updI (fun _ => 0) 6 (-4))), (q_4, hO (fun _ => 0))]) rfl rfl rfl rfl ?_
        refine rr_dup dX4_init_35 rfl ?_
        refine rr_callFv (ws2 := [(a, ob 4 [.ref q_1, .int (zz 0)]), (q_1, aH E 8 (va_up (va_up (fun _ => none) 0 (some q_2)) 1 (some q_3))), (q_2, hO (updI (fun _ => 0) 6 (-4))), (q_3, hO (updI (fun _ => 0) 6 (-4))), (q_4, hO (updI (fun _ => 0) 6 (-4)))]) (wr := [(a, ob 4 [.ref q_1, .int (zz 0)]), (q_1, aH E 8 (va_up (va_up (fun _ => none) 0 (some q_2)) 1 (some q_3))), (q_2, hO (updI (fun _ => 0) 6 (-4))), (q_3, hO (updI (fun _ => 0) 6 (-4)))]) (call_IN kX4_21 (c_Hinit E (d + 0) q_4) rfl (by omega) (by decide) (Nat.le_of_ble_eq_true rfl) (Nat.le_of_ble_eq_true rfl) dX4_init_36) [4] [0, 1, 2, 3] [0, 1, 2, 3, 4] rfl rfl rfl rfl rfl rfl rfl ?_
        refine rr_aast (ws2 := [(a, ob 4 [.ref q_1, .int (zz 0)]), (q_1, aH E 8 (va_up (va_up (va_up (fun _ => none) 0 (some q_2)) 1 (some q_3)) 2 (some q_4))), (q_2, hO (updI (fun _ => 0) 6 (-4))), (q_3, hO (updI (fun _ => 0) 6 (-4))), (q_4, hO (updI (fun _ => 0) 6 (-4)))]) 1 2 4 rfl rfl rfl (by omega) (by omega) rfl dX4_init_39 ?_
        refine rr_iinc (lv2 := [(0, .ref a), (1, .int (zz 8)), (2, .int (zz 3))]) 2 dX4_init_40 rfl (by decide) rfl ?_
        refine rr_goto 18 dX4_init_43 (by decide) ?_
        refine rr_iload_n 2 dX4_init_18 rfl ?_
        refine rr_aload_n 0 dX4_init_19 rfl ?_
        refine rr_get fX4_15 0 rfl rfl dX4_init_20 ?_
        refine rr_alenH 1 rfl dX4_init_23 ?_
        refine rr_icmp_ge 46 dX4_init_24 (by decide) (by omega) (by omega) (fun c_4 => ?_) (fun c_4 => ?_)
        · skip
          exfalso; omega
        · skip
          refine rr_aload_n 0 dX4_init_27 rfl ?_
          refine rr_get fX4_15 0 rfl rfl dX4_init_28 ?_
          refine rr_iload_n 2 dX4_init_31 rfl ?_
          refine rr_new nX4_13 (by decide) (by decide) dX4_init_32 (fun q_5 => ?_)
          refine RR.eq (ws2 := [(a, ob 4 [.ref q_1, .int (zz 0)]), (q_1, aH E 8 (va_up (va_up (va_up (fun _ => none) 0 (some q_2)) 1 (some q_3)) 2 (some q_4))), (q_2, hO (updI (fun _ => 0) 6 (-4))), (q_3, hO (updI (fun _ => 0) 6 (-4))), (q_4, hO (updI (fun _ => 0) 6 (-4))), (q_5, hO (fun _ => 0))]) rfl rfl rfl rfl ?_
          refine rr_dup dX4_init_35 rfl ?_
          refine rr_callFv (ws2 := [(a, ob 4 [.ref q_1, .int (zz 0)]), (q_1, aH E 8 (va_up (va_up (va_up (fun _ => none) 0 (some q_2)) 1 (some q_3)) 2 (some q_4))), (q_2, hO (updI (fun _ => 0) 6 (-4))), (q_3, hO (updI (fun _ => 0) 6 (-4))), (q_4, hO (updI (fun _ => 0) 6 (-4))), (q_5, hO (updI (fun _ => 0) 6 (-4)))]) (wr := [(a, ob 4 [.ref q_1, .int (zz 0)]), (q_1, aH E 8 (va_up (va_up (va_up (fun _ => none) 0 (some q_2)) 1 (some q_3)) 2 (some q_4))), (q_2, hO (updI (fun _ => 0) 6 (-4))), (q_3, hO (updI (fun _ => 0) 6 (-4))), (q_4, hO (updI (fun _ => 0) 6 (-4)))]) (call_IN kX4_21 (c_Hinit E (d + 0) q_5) rfl (by omega) (by decide) (Nat.le_of_ble_eq_true rfl) (Nat.le_of_ble_eq_true rfl) dX4_init_36) [5] [0, 1, 2, 3, 4] [0, 1, 2, 3, 4, 5] rfl rfl rfl rfl rfl rfl rfl ?_
          refine rr_aast (ws2 := [(a, ob 4 [.ref q_1, .int (zz 0)]), (q_1, aH E 8 (va_up (va_up (va_up (va_up (fun _ => none) 0 (some q_2)) 1 (some q_3)) 2 (some q_4)) 3 (some q_5))), (q_2, hO (updI (fun _ => 0) 6 (-4))), (q_3, hO (updI (fun _ => 0) 6 (-4))), (q_4, hO (updI (fun _ => 0) 6 (-4))), (q_5, hO (updI (fun _ => 0) 6 (-4)))]) 1 3 5 rfl rfl rfl (by omega) (by omega) rfl dX4_init_39 ?_
          refine rr_iinc (lv2 := [(0, .ref a), (1, .int (zz 8)), (2, .int (zz 4))]) 2 dX4_init_40 rfl (by decide) rfl ?_
          refine rr_goto 18 dX4_init_43 (by decide) ?_
          refine rr_iload_n 2 dX4_init_18 rfl ?_
          refine rr_aload_n 0 dX4_init_19 rfl ?_
          refine rr_get fX4_15 0 rfl rfl dX4_init_20 ?_
          refine rr_alenH 1 rfl dX4_init_23 ?_
          refine rr_icmp_ge 46 dX4_init_24 (by decide) (by omega) (by omega) (fun c_5 => ?_) (fun c_5 => ?_)
          · skip
            exfalso; omega
          · skip
            refine rr_aload_n 0 dX4_init_27 rfl ?_
            refine rr_get fX4_15 0 rfl rfl dX4_init_28 ?_
            refine rr_iload_n 2 dX4_init_31 rfl ?_
            refine rr_new nX4_13 (by decide) (by decide) dX4_init_32 (fun q_6 => ?_)
            refine RR.eq (ws2 := [(a, ob 4 [.ref q_1, .int (zz 0)]), (q_1, aH E 8 (va_up (va_up (va_up (va_up (fun _ => none) 0 (some q_2)) 1 (some q_3)) 2 (some q_4)) 3 (some q_5))), (q_2, hO (updI (fun _ => 0) 6 (-4))), (q_3, hO (updI (fun _ => 0) 6 (-4))), (q_4, hO (updI (fun _ => 0) 6 (-4))), (q_5, hO (updI (fun _ => 0) 6 (-4))), (q_6, hO (fun _ => 0))]) rfl rfl rfl rfl ?_
            refine rr_dup dX4_init_35 rfl ?_
            refine rr_callFv (ws2 := [(a, ob 4 [.ref q_1, .int (zz 0)]), (q_1, aH E 8 (va_up (va_up (va_up (va_up (fun _ => none) 0 (some q_2)) 1 (some q_3)) 2 (some q_4)) 3 (some q_5))), (q_2, hO (updI (fun _ => 0) 6 (-4))), (q_3, hO (updI (fun _ => 0) 6 (-4))), (q_4, hO (updI (fun _ => 0) 6 (-4))), (q_5, hO (updI (fun _ => 0) 6 (-4))), (q_6, hO (updI (fun _ => 0) 6 (-4)))]) (wr := [(a, ob 4 [.ref q_1, .int (zz 0)]), (q_1, aH E 8 (va_up (va_up (va_up (va_up (fun _ => none) 0 (some q_2)) 1 (some q_3)) 2 (some q_4)) 3 (some q_5))), (q_2, hO (updI (fun _ => 0) 6 (-4))), (q_3, hO (updI (fun _ => 0) 6 (-4))), (q_4, hO (updI (fun _ => 0) 6 (-4))), (q_5, hO (updI (fun _ => 0) 6 (-4)))]) (call_IN kX4_21 (c_Hinit E (d + 0) q_6) rfl (by omega) (by decide) (Nat.le_of_ble_eq_true rfl) (Nat.le_of_ble_eq_true rfl) dX4_init_36) [6] [0, 1, 2, 3, 4, 5] [0, 1, 2, 3, 4, 5, 6] rfl rfl rfl rfl rfl rfl rfl ?_
            refine rr_aast (ws2 := [(a, ob 4 [.ref q_1, .int (zz 0)]), (q_1, aH E 8 (va_up (va_up (va_up (va_up (va_up (fun _ => none) 0 (some q_2)) 1 (some q_3)) 2 (some q_4)) 3 (some q_5)) 4 (some q_6))), (q_2, hO (updI (fun _ => 0) 6 (-4))), (q_3, hO (updI (fun _ => 0) 6 (-4))), (q_4, hO (updI (fun _ => 0) 6 (-4))), (q_5, hO (updI (fun _ => 0) 6 (-4))), (q_6, hO (updI (fun _ => 0) 6 (-4)))]) 1 4 6 rfl rfl rfl (by omega) (by omega) rfl dX4_init_39 ?_
            refine rr_iinc (lv2 := [(0, .ref a), (1, .int (zz 8)), (2, .int (zz 5))]) 2 dX4_init_40 rfl (by decide) rfl ?_
            refine rr_goto 18 dX4_init_43 (by decide) ?_
            refine rr_iload_n 2 dX4_init_18 rfl ?_
            refine rr_aload_n 0 dX4_init_19 rfl ?_
            refine rr_get fX4_15 0 rfl rfl dX4_init_20 ?_
            refine rr_alenH 1 rfl dX4_init_23 ?_
            refine rr_icmp_ge 46 dX4_init_24 (by decide) (by omega) (by omega) (fun c_6 => ?_) (fun c_6 => ?_)
            · skip
              exfalso; omega
            · skip
              refine rr_aload_n 0 dX4_init_27 rfl ?_
              refine rr_get fX4_15 0 rfl rfl dX4_init_28 ?_
              refine rr_iload_n 2 dX4_init_31 rfl ?_
              refine rr_new nX4_13 (by decide) (by decide) dX4_init_32 (fun q_7 => ?_)
              refine RR.eq (ws2 := [(a, ob 4 [.ref q_1, .int (zz 0)]), (q_1, aH E 8 (va_up (va_up (va_up (va_up (va_up (fun _ => none) 0 (some q_2)) 1 (some q_3)) 2 (some q_4)) 3 (some q_5)) 4 (some q_6))), (q_2, hO (updI (fun _ => 0) 6 (-4))), (q_3, hO (updI (fun _ => 0) 6 (-4))), (q_4, hO (updI (fun _ => 0) 6 (-4))), (q_5, hO (updI (fun _ => 0) 6 (-4))), (q_6, hO (updI (fun _ => 0) 6 (-4))), (q_7, hO (fun _ => 0))]) rfl rfl rfl rfl ?_
              refine rr_dup dX4_init_35 rfl ?_
              refine rr_callFv (ws2 := [(a, ob 4 [.ref q_1, .int (zz 0)]), (q_1, aH E 8 (va_up (va_up (va_up (va_up (va_up (fun _ => none) 0 (some q_2)) 1 (some q_3)) 2 (some q_4)) 3 (some q_5)) 4 (some q_6))), (q_2, hO (updI (fun _ => 0) 6 (-4))), (q_3, hO (updI (fun _ => 0) 6 (-4))), (q_4, hO (updI (fun _ => 0) 6 (-4))), (q_5, hO (updI (fun _ => 0) 6 (-4))), (q_6, hO (updI (fun _ => 0) 6 (-4))), (q_7, hO (updI (fun _ => 0) 6 (-4)))]) (wr := [(a, ob 4 [.ref q_1, .int (zz 0)]), (q_1, aH E 8 (va_up (va_up (va_up (va_up (va_up (fun _ => none) 0 (some q_2)) 1 (some q_3)) 2 (some q_4)) 3 (some q_5)) 4 (some q_6))), (q_2, hO (updI (fun _ => 0) 6 (-4))), (q_3, hO (updI (fun _ => 0) 6 (-4))), (q_4, hO (updI (fun _ => 0) 6 (-4))), (q_5, hO (updI (fun _ => 0) 6 (-4))), (q_6, hO (updI (fun _ => 0) 6 (-4)))]) (call_IN kX4_21 (c_Hinit E (d + 0) q_7) rfl (by omega) (by decide) (Nat.le_of_ble_eq_true rfl) (Nat.le_of_ble_eq_true rfl) dX4_init_36) [7] [0, 1, 2, 3, 4, 5, 6] [0, 1, 2, 3, 4, 5, 6, 7] rfl rfl rfl rfl rfl rfl rfl ?_
              refine rr_aast (ws2 := [(a, ob 4 [.ref q_1, .int (zz 0)]), (q_1, aH E 8 (va_up (va_up (va_up (va_up (va_up (va_up (fun _ => none) 0 (some q_2)) 1 (some q_3)) 2 (some q_4)) 3 (some q_5)) 4 (some q_6)) 5 (some q_7))), (q_2, hO (updI (fun _ => 0) 6 (-4))), (q_3, hO (updI (fun _ => 0) 6 (-4))), (q_4, hO (updI (fun _ => 0) 6 (-4))), (q_5, hO (updI (fun _ => 0) 6 (-4))), (q_6, hO (updI (fun _ => 0) 6 (-4))), (q_7, hO (updI (fun _ => 0) 6 (-4)))]) 1 5 7 rfl rfl rfl (by omega) (by omega) rfl dX4_init_39 ?_
              refine rr_iinc (lv2 := [(0, .ref a), (1, .int (zz 8)), (2, .int (zz 6))]) 2 dX4_init_40 rfl (by decide) rfl ?_
              refine rr_goto 18 dX4_init_43 (by decide) ?_
              refine rr_iload_n 2 dX4_init_18 rfl ?_
              refine rr_aload_n 0 dX4_init_19 rfl ?_
              refine rr_get fX4_15 0 rfl rfl dX4_init_20 ?_
              refine rr_alenH 1 rfl dX4_init_23 ?_
              refine rr_icmp_ge 46 dX4_init_24 (by decide) (by omega) (by omega) (fun c_7 => ?_) (fun c_7 => ?_)
              · skip
                exfalso; omega
              · skip
                refine rr_aload_n 0 dX4_init_27 rfl ?_
                refine rr_get fX4_15 0 rfl rfl dX4_init_28 ?_
                refine rr_iload_n 2 dX4_init_31 rfl ?_
                refine rr_new nX4_13 (by decide) (by decide) dX4_init_32 (fun q_8 => ?_)
                refine RR.eq (ws2 := [(a, ob 4 [.ref q_1, .int (zz 0)]), (q_1, aH E 8 (va_up (va_up (va_up (va_up (va_up (va_up (fun _ => none) 0 (some q_2)) 1 (some q_3)) 2 (some q_4)) 3 (some q_5)) 4 (some q_6)) 5 (some q_7))), (q_2, hO (updI (fun _ => 0) 6 (-4))), (q_3, hO (updI (fun _ => 0) 6 (-4))), (q_4, hO (updI (fun _ => 0) 6 (-4))), (q_5, hO (updI (fun _ => 0) 6 (-4))), (q_6, hO (updI (fun _ => 0) 6 (-4))), (q_7, hO (updI (fun _ => 0) 6 (-4))), (q_8, hO (fun _ => 0))]) rfl rfl rfl rfl ?_
                refine rr_dup dX4_init_35 rfl ?_
                refine rr_callFv (ws2 := [(a, ob 4 [.ref q_1, .int (zz 0)]), (q_1, aH E 8 (va_up (va_up (va_up (va_up (va_up (va_up (fun _ => none) 0 (some q_2)) 1 (some q_3)) 2 (some q_4)) 3 (some q_5)) 4 (some q_6)) 5 (some q_7))), (q_2, hO (updI (fun _ => 0) 6 (-4))), (q_3, hO (updI (fun _ => 0) 6 (-4))), (q_4, hO (updI (fun _ => 0) 6 (-4))), (q_5, hO (updI (fun _ => 0) 6 (-4))), (q_6, hO (updI (fun _ => 0) 6 (-4))), (q_7, hO (updI (fun _ => 0) 6 (-4))), (q_8, hO (updI (fun _ => 0) 6 (-4)))]) (wr := [(a, ob 4 [.ref q_1, .int (zz 0)]), (q_1, aH E 8 (va_up (va_up (va_up (va_up (va_up (va_up (fun _ => none) 0 (some q_2)) 1 (some q_3)) 2 (some q_4)) 3 (some q_5)) 4 (some q_6)) 5 (some q_7))), (q_2, hO (updI (fun _ => 0) 6 (-4))), (q_3, hO (updI (fun _ => 0) 6 (-4))), (q_4, hO (updI (fun _ => 0) 6 (-4))), (q_5, hO (updI (fun _ => 0) 6 (-4))), (q_6, hO (updI (fun _ => 0) 6 (-4))), (q_7, hO (updI (fun _ => 0) 6 (-4)))]) (call_IN kX4_21 (c_Hinit E (d + 0) q_8) rfl (by omega) (by decide) (Nat.le_of_ble_eq_true rfl) (Nat.le_of_ble_eq_true rfl) dX4_init_36) [8] [0, 1, 2, 3, 4, 5, 6, 7] [0, 1, 2, 3, 4, 5, 6, 7, 8] rfl rfl rfl rfl rfl rfl rfl ?_
                refine rr_aast (ws2 := [(a, ob 4 [.ref q_1, .int (zz 0)]), (q_1, aH E 8 (va_up (va_up (va_up (va_up (va_up (va_up (va_up (fun _ => none) 0 (some q_2)) 1 (some q_3)) 2 (some q_4)) 3 (some q_5)) 4 (some q_6)) 5 (some q_7)) 6 (some q_8))), (q_2, hO (updI (fun _ => 0) 6 (-4))), (q_3, hO (updI (fun _ => 0) 6 (-4))), (q_4, hO (updI (fun _ => 0) 6 (-4))), (q_5, hO (updI (fun _ => 0) 6 (-4))), (q_6, hO (updI (fun _ => 0) 6 (-4))), (q_7, hO (updI (fun _ => 0) 6 (-4))), (q_8, hO (updI (fun _ => 0) 6 (-4)))]) 1 6 8 rfl rfl rfl (by omega) (by omega) rfl dX4_init_39 ?_
                refine rr_iinc (lv2 := [(0, .ref a), (1, .int (zz 8)), (2, .int (zz 7))]) 2 dX4_init_40 rfl (by decide) rfl ?_
                refine rr_goto 18 dX4_init_43 (by decide) ?_
                refine rr_iload_n 2 dX4_init_18 rfl ?_
                refine rr_aload_n 0 dX4_init_19 rfl ?_
                refine rr_get fX4_15 0 rfl rfl dX4_init_20 ?_
                refine rr_alenH 1 rfl dX4_init_23 ?_
                refine rr_icmp_ge 46 dX4_init_24 (by decide) (by omega) (by omega) (fun c_8 => ?_) (fun c_8 => ?_)
                · skip
                  exfalso; omega
                · skip
                  refine rr_aload_n 0 dX4_init_27 rfl ?_
                  refine rr_get fX4_15 0 rfl rfl dX4_init_28 ?_
                  refine rr_iload_n 2 dX4_init_31 rfl ?_
                  refine rr_new nX4_13 (by decide) (by decide) dX4_init_32 (fun q_9 => ?_)
                  refine RR.eq (ws2 := [(a, ob 4 [.ref q_1, .int (zz 0)]), (q_1, aH E 8 (va_up (va_up (va_up (va_up (va_up (va_up (va_up (fun _ => none) 0 (some q_2)) 1 (some q_3)) 2 (some q_4)) 3 (some q_5)) 4 (some q_6)) 5 (some q_7)) 6 (some q_8))), (q_2, hO (updI (fun _ => 0) 6 (-4))), (q_3, hO (updI (fun _ => 0) 6 (-4))), (q_4, hO (updI (fun _ => 0) 6 (-4))), (q_5, hO (updI (fun _ => 0) 6 (-4))), (q_6, hO (updI (fun _ => 0) 6 (-4))), (q_7, hO (updI (fun _ => 0) 6 (-4))), (q_8, hO (updI (fun _ => 0) 6 (-4))), (q_9, hO (fun _ => 0))]) rfl rfl rfl rfl ?_
                  refine rr_dup dX4_init_35 rfl ?_
                  refine rr_callFv (ws2 := [(a, ob 4 [.ref q_1, .int (zz 0)]), (q_1, aH E 8 (va_up (va_up (va_up (va_up (va_up (va_up (va_up (fun _ => none) 0 (some q_2)) 1 (some q_3)) 2 (some q_4)) 3 (some q_5)) 4 (some q_6)) 5 (some q_7)) 6 (some q_8))), (q_2, hO (updI (fun _ => 0) 6 (-4))), (q_3, hO (updI (fun _ => 0) 6 (-4))), (q_4, hO (updI (fun _ => 0) 6 (-4))), (q_5, hO (updI (fun _ => 0) 6 (-4))), (q_6, hO (updI (fun _ => 0) 6 (-4))), (q_7, hO (updI (fun _ => 0) 6 (-4))), (q_8, hO (updI (fun _ => 0) 6 (-4))), (q_9, hO (updI (fun _ => 0) 6 (-4)))]) (wr := [(a, ob 4 [.ref q_1, .int (zz 0)]), (q_1, aH E 8 (va_up (va_up (va_up (va_up (va_up (va_up (va_up (fun _ => none) 0 (some q_2)) 1 (some q_3)) 2 (some q_4)) 3 (some q_5)) 4 (some q_6)) 5 (some q_7)) 6 (some q_8))), (q_2, hO (updI (fun _ => 0) 6 (-4))), (q_3, hO (updI (fun _ => 0) 6 (-4))), (q_4, hO (updI (fun _ => 0) 6 (-4))), (q_5, hO (updI (fun _ => 0) 6 (-4))), (q_6, hO (updI (fun _ => 0) 6 (-4))), (q_7, hO (updI (fun _ => 0) 6 (-4))), (q_8, hO (updI (fun _ => 0) 6 (-4)))]) (call_IN kX4_21 (c_Hinit E (d + 0) q_9) rfl (by omega) (by decide) (Nat.le_of_ble_eq_true rfl) (Nat.le_of_ble_eq_true rfl) dX4_init_36) [9] [0, 1, 2, 3, 4, 5, 6, 7, 8] [0, 1, 2, 3, 4, 5, 6, 7, 8, 9] rfl rfl rfl rfl rfl rfl rfl ?_
                  refine rr_aast (ws2 := [(a, ob 4 [.ref q_1, .int (zz 0)]), (q_1, aH E 8 (va_up (va_up (va_up (va_up (va_up (va_up (va_up (va_up (fun _ => none) 0 (some q_2)) 1 (some q_3)) 2 (some q_4)) 3 (some q_5)) 4 (some q_6)) 5 (some q_7)) 6 (some q_8)) 7 (some q_9))), (q_2, hO (updI (fun _ => 0) 6 (-4))), (q_3, hO (updI (fun _ => 0) 6 (-4))), (q_4, hO (updI (fun _ => 0) 6 (-4))), (q_5, hO (updI (fun _ => 0) 6 (-4))), (q_6, hO (updI (fun _ => 0) 6 (-4))), (q_7, hO (updI (fun _ => 0) 6 (-4))), (q_8, hO (updI (fun _ => 0) 6 (-4))), (q_9, hO (updI (fun _ => 0) 6 (-4)))]) 1 7 9 rfl rfl rfl (by omega) (by omega) rfl dX4_init_39 ?_
                  refine rr_iinc (lv2 := [(0, .ref a), (1, .int (zz 8)), (2, .int (zz 8))]) 2 dX4_init_40 rfl (by decide) rfl ?_
                  refine rr_goto 18 dX4_init_43 (by decide) ?_
                  refine rr_iload_n 2 dX4_init_18 rfl ?_
                  refine rr_aload_n 0 dX4_init_19 rfl ?_
                  refine rr_get fX4_15 0 rfl rfl dX4_init_20 ?_
                  refine rr_alenH 1 rfl dX4_init_23 ?_
                  refine rr_icmp_ge 46 dX4_init_24 (by decide) (by omega) (by omega) (fun c_9 => ?_) (fun c_9 => ?_)
                  · skip
                    refine rr_aHx (g := (fun i => some (if i = 0 then q_2 else if i = 1 then q_3 else if i = 2 then q_4 else if i = 3 then q_5 else if i = 4 then q_6 else if i = 5 then q_7 else if i = 6 then q_8 else q_9))) (ws2 := [(a, ob 4 [.ref q_1, .int (zz 0)]), (q_1, aH E 8 (fun i => some (if i = 0 then q_2 else if i = 1 then q_3 else if i = 2 then q_4 else if i = 3 then q_5 else if i = 4 then q_6 else if i = 5 then q_7 else if i = 6 then q_8 else q_9))), (q_2, hO (updI (fun _ => 0) 6 (-4))), (q_3, hO (updI (fun _ => 0) 6 (-4))), (q_4, hO (updI (fun _ => 0) 6 (-4))), (q_5, hO (updI (fun _ => 0) 6 (-4))), (q_6, hO (updI (fun _ => 0) 6 (-4))), (q_7, hO (updI (fun _ => 0) 6 (-4))), (q_8, hO (updI (fun _ => 0) 6 (-4))), (q_9, hO (updI (fun _ => 0) 6 (-4)))]) 1 rfl (fun j hj => by rcases (show j = 0 ∨ j = 1 ∨ j = 2 ∨ j = 3 ∨ j = 4 ∨ j = 5 ∨ j = 6 ∨ j = 7 by omega) with rfl | rfl | rfl | rfl | rfl | rfl | rfl | rfl <;> rfl) rfl ?_
                    exact rr_ret dX4_init_46 rfl ⟨rfl, q_1, fun i => if i = 0 then q_2 else if i = 1 then q_3 else if i = 2 then q_4 else if i = 3 then q_5 else if i = 4 then q_6 else if i = 5 then q_7 else if i = 6 then q_8 else q_9, rfl⟩
                  · skip
                    exfalso; omega
set_option maxRecDepth 100000 in
set_option maxHeartbeats 1000000 in
theorem c_Shinit2 (E : Ev) (d : Nat) (a : Nat) : SP E mX4_init (d + 2) 3 16 [.ref a, .int (zz 2)] [(a, ob 4 [.null, .int (zz 0)])] (fun v w => v = none ∧ ∃ (ar : Nat) (u : Nat → Nat), w = [(a, ob 4 [.ref ar, .int (zz 0)]), (ar, aH E 2 (fun i => some (u i))), ((u 0), hO (updI (fun _ => 0) 6 (-4))), ((u 1), hO (updI (fun _ => 0) 6 (-4)))]) := by
  show RR E mX4_init (d + 2) 3 16 0 [(0, .ref a), (1, .int (zz 2))] [] [(a, ob 4 [.null, .int (zz 0)])] (fun v w => v = none ∧ ∃ (ar : Nat) (u : Nat → Nat), w = [(a, ob 4 [.ref ar, .int (zz 0)]), (ar, aH E 2 (fun i => some (u i))), ((u 0), hO (updI (fun _ => 0) 6 (-4))), ((u 1), hO (updI (fun _ => 0) 6 (-4)))])
  refine rr_aload_n 0 dX4_init_0 rfl ?_
  refine rr_objI oiX4 (by omega) (Nat.le_of_ble_eq_true rfl) dX4_init_1 ?_
  refine rr_aload_n 0 dX4_init_4 rfl ?_
  refine rr_iconst dX4_init_5 ?_
  refine rr_iload_n 1 dX4_init_6 rfl ?_
  refine rr_max (r := 2) mmX4 (by omega) (Nat.le_of_ble_eq_true rfl) (by decide) dX4_init_7 ?_
  refine rr_newH 2 clX4_13 rfl (by decide) (by decide) (by decide) dX4_init_10 (fun q_1 => ?_)
  refine RR.eq (ws2 := [(a, ob 4 [.null, .int (zz 0)]), (q_1, aH E 2 (fun _ => none))]) rfl rfl rfl rfl ?_
  refine rr_putF (ws2 := [(a, ob 4 [.ref q_1, .int (zz 0)]), (q_1, aH E 2 (fun _ => none))]) fX4_15 rfl (fun r h => by cases h; rfl) 0 rfl rfl rfl (Nat.le_of_ble_eq_true rfl) rfl dX4_init_13 ?_
  refine rr_iconst dX4_init_16 ?_
  refine rr_istore_n (lv2 := [(0, .ref a), (1, .int (zz 2)), (2, .int (zz 0))]) dX4_init_17 (by decide) rfl ?_
  refine rr_iload_n 2 dX4_init_18 rfl ?_
  refine rr_aload_n 0 dX4_init_19 rfl ?_
  refine rr_get fX4_15 0 rfl rfl dX4_init_20 ?_
  refine rr_alenH 1 rfl dX4_init_23 ?_
  refine rr_icmp_ge 46 dX4_init_24 (by decide) (by omega) (by omega) (fun c_1 => ?_) (fun c_1 => ?_)
  · skip
    exfalso; omega
  · skip
    refine rr_aload_n 0 dX4_init_27 rfl ?_
    refine rr_get fX4_15 0 rfl rfl dX4_init_28 ?_
    refine rr_iload_n 2 dX4_init_31 rfl ?_
    refine rr_new nX4_13 (by decide) (by decide) dX4_init_32 (fun q_2 => ?_)
    refine RR.eq (ws2 := [(a, ob 4 [.ref q_1, .int (zz 0)]), (q_1, aH E 2 (fun _ => none)), (q_2, hO (fun _ => 0))]) rfl rfl rfl rfl ?_
    refine rr_dup dX4_init_35 rfl ?_
    refine rr_callFv (ws2 := [(a, ob 4 [.ref q_1, .int (zz 0)]), (q_1, aH E 2 (fun _ => none)), (q_2, hO (updI (fun _ => 0) 6 (-4)))]) (wr := [(a, ob 4 [.ref q_1, .int (zz 0)]), (q_1, aH E 2 (fun _ => none))]) (call_IN kX4_21 (c_Hinit E (d + 0) q_2) rfl (by omega) (by decide) (Nat.le_of_ble_eq_true rfl) (Nat.le_of_ble_eq_true rfl) dX4_init_36) [2] [0, 1] [0, 1, 2] rfl rfl rfl rfl rfl rfl rfl ?_
    refine rr_aast (ws2 := [(a, ob 4 [.ref q_1, .int (zz 0)]), (q_1, aH E 2 (va_up (fun _ => none) 0 (some q_2))), (q_2, hO (updI (fun _ => 0) 6 (-4)))]) 1 0 2 rfl rfl rfl (by omega) (by omega) rfl dX4_init_39 ?_
    refine rr_iinc (lv2 := [(0, .ref a), (1, .int (zz 2)), (2, .int (zz 1))]) 2 dX4_init_40 rfl (by decide) rfl ?_
    refine rr_goto 18 dX4_init_43 (by decide) ?_
    refine rr_iload_n 2 dX4_init_18 rfl ?_
    refine rr_aload_n 0 dX4_init_19 rfl ?_
    refine rr_get fX4_15 0 rfl rfl dX4_init_20 ?_
    refine rr_alenH 1 rfl dX4_init_23 ?_
    refine rr_icmp_ge 46 dX4_init_24 (by decide) (by omega) (by omega) (fun c_2 => ?_) (fun c_2 => ?_)
    · skip
      exfalso; omega
    · skip
      refine rr_aload_n 0 dX4_init_27 rfl ?_
      refine rr_get fX4_15 0 rfl rfl dX4_init_28 ?_
      refine rr_iload_n 2 dX4_init_31 rfl ?_
      refine rr_new nX4_13 (by decide) (by decide) dX4_init_32 (fun q_3 => ?_)
      refine RR.eq (ws2 := [(a, ob 4 [.ref q_1, .int (zz 0)]), (q_1, aH E 2 (va_up (fun _ => none) 0 (some q_2))), (q_2, hO (updI (fun _ => 0) 6 (-4))), (q_3, hO (fun _ => 0))]) rfl rfl rfl rfl ?_
      refine rr_dup dX4_init_35 rfl ?_
      refine rr_callFv (ws2 := [(a, ob 4 [.ref q_1, .int (zz 0)]), (q_1, aH E 2 (va_up (fun _ => none) 0 (some q_2))), (q_2, hO (updI (fun _ => 0) 6 (-4))), (q_3, hO (updI (fun _ => 0) 6 (-4)))]) (wr := [(a, ob 4 [.ref q_1, .int (zz 0)]), (q_1, aH E 2 (va_up (fun _ => none) 0 (some q_2))), (q_2, hO (updI (fun _ => 0) 6 (-4)))]) (call_IN kX4_21 (c_Hinit E (d + 0) q_3) rfl (by omega) (by decide) (Nat.le_of_ble_eq_true rfl) (Nat.le_of_ble_eq_true rfl) dX4_init_36) [3] [0, 1, 2] [0, 1, 2, 3] rfl rfl rfl rfl rfl rfl rfl ?_
      refine rr_aast (ws2 := [(a, ob 4 [.ref q_1, .int (zz 0)]), (q_1, aH E 2 (va_up (va_up (fun _ => none) 0 (some q_2)) 1 (some q_3))), (q_2, hO (updI (fun _ => 0) 6 (-4))), (q_3, hO (updI (fun _ => 0) 6 (-4)))]) 1 1 3 rfl rfl rfl (by omega) (by omega) rfl dX4_init_39 ?_
      refine rr_iinc (lv2 := [(0, .ref a), (1, .int (zz 2)), (2, .int (zz 2))]) 2 dX4_init_40 rfl (by decide) rfl ?_
      refine rr_goto 18 dX4_init_43 (by decide) ?_
      refine rr_iload_n 2 dX4_init_18 rfl ?_
      refine rr_aload_n 0 dX4_init_19 rfl ?_
      refine rr_get fX4_15 0 rfl rfl dX4_init_20 ?_
      refine rr_alenH 1 rfl dX4_init_23 ?_
      refine rr_icmp_ge 46 dX4_init_24 (by decide) (by omega) (by omega) (fun c_3 => ?_) (fun c_3 => ?_)
      · skip
        refine rr_aHx (g := (fun i => some (if i = 0 then q_2 else q_3))) (ws2 := [(a, ob 4 [.ref q_1, .int (zz 0)]), (q_1, aH E 2 (fun i => some (if i = 0 then q_2 else q_3))), (q_2, hO (updI (fun _ => 0) 6 (-4))), (q_3, hO (updI (fun _ => 0) 6 (-4)))]) 1 rfl (fun j hj => by rcases (show j = 0 ∨ j = 1 by omega) with rfl | rfl <;> rfl) rfl ?_
        exact rr_ret dX4_init_46 rfl ⟨rfl, q_1, fun i => if i = 0 then q_2 else q_3, rfl⟩
      · skip
        exfalso; omega
