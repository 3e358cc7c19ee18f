set_option maxRecDepth 100000 in
set_option maxHeartbeats 1000000 in
theorem c_within (E : Ev) (d : Nat) (v m : Int) (hv : -2147483648 ≤ v ∧ v < 2147483648) (hm : -2147483648 ≤ m ∧ m < 2147483648) : SP E mX6_within (d + 0) 0 0 [.int (zz v), .int (zz m)] [] (FP (some (.int (zz (clampI v m)))) []) := by
  show RR E mX6_within (d + 0) 0 0 0 [(0, .int (zz v)), (1, .int (zz m))] [] [] (FP (some (.int (zz (clampI v m)))) [])
  refine rr_iload_n 0 dX6_within_0 rfl ?_
  refine rr_if_ge 8 dX6_within_1 (by decide) (by omega) (fun c_1 => ?_) (fun c_1 => ?_)
  · skip
    refine rr_iload_n 0 dX6_within_8 rfl ?_
    refine rr_iload_n 1 dX6_within_9 rfl ?_
    refine rr_icmp_le 17 dX6_within_10 (by decide) (by omega) (by omega) (fun c_2 => ?_) (fun c_2 => ?_)
    · skip
      refine rr_iload_n 0 dX6_within_17 rfl ?_
      exact rr_iret dX6_within_18 rfl rfl ⟨congrArg (fun z => some (Value.int (zz z))) (by unfold clampI; (repeat' split) <;> omega), rfl⟩
    · skip
      refine rr_iload_n 1 dX6_within_13 rfl ?_
      refine rr_goto 18 dX6_within_14 (by decide) ?_
      exact rr_iret dX6_within_18 rfl rfl ⟨congrArg (fun z => some (Value.int (zz z))) (by unfold clampI; (repeat' split) <;> omega), rfl⟩
  · skip
    refine rr_iconst dX6_within_4 ?_
    refine rr_goto 18 dX6_within_5 (by decide) ?_
    exact rr_iret dX6_within_18 rfl rfl ⟨congrArg (fun z => some (Value.int (zz z))) (by unfold clampI; (repeat' split) <;> omega), rfl⟩
set_option maxRecDepth 100000 in
set_option maxHeartbeats 1000000 in
theorem c_copy (E : Ev) (d : Nat) (a b : Nat) (h g : Nat → Int) : SP E mX0_copy (d + 0) 0 0 [.ref a, .ref b] [(a, hO h), (b, hO g)] (FP none [(a, hO g), (b, hO g)]) := by
  show RR E mX0_copy (d + 0) 0 0 0 [(0, .ref a), (1, .ref b)] [] [(a, hO h), (b, hO g)] (FP none [(a, hO g), (b, hO g)])
  refine rr_aload_n 0 dX0_copy_0 rfl ?_
  refine rr_aload_n 1 dX0_copy_1 rfl ?_
  refine rr_get fX0_15 1 rfl rfl dX0_copy_2 ?_
  refine rr_put (ws2 := [(a, hO (updI h 0 (g 0))), (b, hO g)]) fX0_15 0 rfl rfl rfl (Nat.le_of_ble_eq_true rfl) rfl dX0_copy_5 ?_
  refine rr_aload_n 0 dX0_copy_8 rfl ?_
  refine rr_aload_n 1 dX0_copy_9 rfl ?_
  refine rr_get fX0_18 1 rfl rfl dX0_copy_10 ?_
  refine rr_put (ws2 := [(a, hO (updI (updI h 0 (g 0)) 1 (g 1))), (b, hO g)]) fX0_18 0 rfl rfl rfl (Nat.le_of_ble_eq_true rfl) rfl dX0_copy_13 ?_
  refine rr_aload_n 0 dX0_copy_16 rfl ?_
  refine rr_aload_n 1 dX0_copy_17 rfl ?_
  refine rr_get fX0_21 1 rfl rfl dX0_copy_18 ?_
  refine rr_put (ws2 := [(a, hO (updI (updI (updI h 0 (g 0)) 1 (g 1)) 2 (g 2))), (b, hO g)]) fX0_21 0 rfl rfl rfl (Nat.le_of_ble_eq_true rfl) rfl dX0_copy_21 ?_
  refine rr_aload_n 0 dX0_copy_24 rfl ?_
  refine rr_aload_n 1 dX0_copy_25 rfl ?_
  refine rr_get fX0_24 1 rfl rfl dX0_copy_26 ?_
  refine rr_put (ws2 := [(a, hO (updI (updI (updI (updI h 0 (g 0)) 1 (g 1)) 2 (g 2)) 3 (g 3))), (b, hO g)]) fX0_24 0 rfl rfl rfl (Nat.le_of_ble_eq_true rfl) rfl dX0_copy_29 ?_
  refine rr_aload_n 0 dX0_copy_32 rfl ?_
  refine rr_aload_n 1 dX0_copy_33 rfl ?_
  refine rr_get fX0_27 1 rfl rfl dX0_copy_34 ?_
  refine rr_put (ws2 := [(a, hO (updI (updI (updI (updI (updI h 0 (g 0)) 1 (g 1)) 2 (g 2)) 3 (g 3)) 4 (g 4))), (b, hO g)]) fX0_27 0 rfl rfl rfl (Nat.le_of_ble_eq_true rfl) rfl dX0_copy_37 ?_
  refine rr_aload_n 0 dX0_copy_40 rfl ?_
  refine rr_aload_n 1 dX0_copy_41 rfl ?_
  refine rr_get fX0_30 1 rfl rfl dX0_copy_42 ?_
  refine rr_put (ws2 := [(a, hO (updI (updI (updI (updI (updI (updI h 0 (g 0)) 1 (g 1)) 2 (g 2)) 3 (g 3)) 4 (g 4)) 5 (g 5))), (b, hO g)]) fX0_30 0 rfl rfl rfl (Nat.le_of_ble_eq_true rfl) rfl dX0_copy_45 ?_
  refine rr_aload_n 0 dX0_copy_48 rfl ?_
  refine rr_aload_n 1 dX0_copy_49 rfl ?_
  refine rr_get fX0_9 1 rfl rfl dX0_copy_50 ?_
  refine rr_put (ws2 := [(a, hO (updI (updI (updI (updI (updI (updI (updI h 0 (g 0)) 1 (g 1)) 2 (g 2)) 3 (g 3)) 4 (g 4)) 5 (g 5)) 6 (g 6))), (b, hO g)]) fX0_9 0 rfl rfl rfl (Nat.le_of_ble_eq_true rfl) rfl dX0_copy_53 ?_
  exact rr_ret dX0_copy_56 rfl ⟨rfl, rfl⟩
set_option maxRecDepth 100000 in
set_option maxHeartbeats 1000000 in
theorem c_spot (E : Ev) (d : Nat) (a : Nat) (h : Nat → Int) : SP E mX0_spot (d + 0) 0 0 [.ref a] [(a, hO h)] (FP (some (.int (zz (10 * h 1 + h 0)))) [(a, hO h)]) := by
  show RR E mX0_spot (d + 0) 0 0 0 [(0, .ref a)] [] [(a, hO h)] (FP (some (.int (zz (10 * h 1 + h 0)))) [(a, hO h)])
  refine rr_bipush dX0_spot_0 (by decide) ?_
  refine rr_aload_n 0 dX0_spot_2 rfl ?_
  refine rr_get fX0_18 0 rfl rfl dX0_spot_3 ?_
  refine rr_imul dX0_spot_6 ?_
  refine rr_aload_n 0 dX0_spot_7 rfl ?_
  refine rr_get fX0_15 0 rfl rfl dX0_spot_8 ?_
  refine rr_iadd dX0_spot_11 ?_
  exact rr_iret dX0_spot_12 rfl rfl ⟨rfl, rfl⟩
set_option maxRecDepth 100000 in
set_option maxHeartbeats 1000000 in
theorem c_isDown (E : Ev) (d : Nat) (a : Nat) (h : Nat → Int) (h2 : 0 ≤ h 2 ∧ h 2 ≤ 9) : SP E mX0_isDown (d + 0) 0 0 [.ref a] [(a, hO h)] (FP (some (.int (zz (bI (decide (h 2 = 0)))))) [(a, hO h)]) := by
  show RR E mX0_isDown (d + 0) 0 0 0 [(0, .ref a)] [] [(a, hO h)] (FP (some (.int (zz (bI (decide (h 2 = 0)))))) [(a, hO h)])
  refine rr_aload_n 0 dX0_isDown_0 rfl ?_
  refine rr_get fX0_21 0 rfl rfl dX0_isDown_1 ?_
  refine rr_if_ne 11 dX0_isDown_4 (by decide) (by omega) (fun c_1 => ?_) (fun c_1 => ?_)
  · skip
    refine rr_iconst dX0_isDown_11 ?_
    exact rr_iret dX0_isDown_12 rfl rfl ⟨congrArg (fun z => some (Value.int (zz z))) (by simp [bI, *]), rfl⟩
  · skip
    refine rr_iconst dX0_isDown_7 ?_
    refine rr_goto 12 dX0_isDown_8 (by decide) ?_
    exact rr_iret dX0_isDown_12 rfl rfl ⟨congrArg (fun z => some (Value.int (zz z))) (by simp [bI, *]), rfl⟩
set_option maxRecDepth 100000 in
set_option maxHeartbeats 1000000 in
theorem c_isLike (E : Ev) (d : Nat) (a b : Nat) (h g : Nat → Int) (hr0 : -2147483648 ≤ h 0 ∧ h 0 < 2147483648) (hr1 : -2147483648 ≤ h 1 ∧ h 1 < 2147483648) (hr2 : -2147483648 ≤ h 2 ∧ h 2 < 2147483648) (hr3 : -2147483648 ≤ h 3 ∧ h 3 < 2147483648) (gr0 : -2147483648 ≤ g 0 ∧ g 0 < 2147483648) (gr1 : -2147483648 ≤ g 1 ∧ g 1 < 2147483648) (gr2 : -2147483648 ≤ g 2 ∧ g 2 < 2147483648) (gr3 : -2147483648 ≤ g 3 ∧ g 3 < 2147483648) : SP E mX0_isLike (d + 0) 0 0 [.ref a, .ref b] [(a, hO h), (b, hO g)] (FP (some (.int (zz (bI (decide (h 0 = g 0 ∧ h 1 = g 1 ∧ h 2 = g 2 ∧ h 3 = g 3)))))) [(a, hO h), (b, hO g)]) := by
  show RR E mX0_isLike (d + 0) 0 0 0 [(0, .ref a), (1, .ref b)] [] [(a, hO h), (b, hO g)] (FP (some (.int (zz (bI (decide (h 0 = g 0 ∧ h 1 = g 1 ∧ h 2 = g 2 ∧ h 3 = g 3)))))) [(a, hO h), (b, hO g)])
  refine rr_aload_n 0 dX0_isLike_0 rfl ?_
  refine rr_get fX0_15 0 rfl rfl dX0_isLike_1 ?_
  refine rr_aload_n 1 dX0_isLike_4 rfl ?_
  refine rr_get fX0_15 1 rfl rfl dX0_isLike_5 ?_
  refine rr_icmp_ne 48 dX0_isLike_8 (by decide) (by omega) (by omega) (fun c_1 => ?_) (fun c_1 => ?_)
  · skip
    refine rr_iconst dX0_isLike_48 ?_
    exact rr_iret dX0_isLike_49 rfl rfl ⟨congrArg (fun z => some (Value.int (zz z))) (by simp [bI, *]), rfl⟩
  · skip
    refine rr_aload_n 0 dX0_isLike_11 rfl ?_
    refine rr_get fX0_18 0 rfl rfl dX0_isLike_12 ?_
    refine rr_aload_n 1 dX0_isLike_15 rfl ?_
    refine rr_get fX0_18 1 rfl rfl dX0_isLike_16 ?_
    refine rr_icmp_ne 48 dX0_isLike_19 (by decide) (by omega) (by omega) (fun c_2 => ?_) (fun c_2 => ?_)
    · skip
      refine rr_iconst dX0_isLike_48 ?_
      exact rr_iret dX0_isLike_49 rfl rfl ⟨congrArg (fun z => some (Value.int (zz z))) (by simp [bI, *]), rfl⟩
    · skip
      refine rr_aload_n 0 dX0_isLike_22 rfl ?_
      refine rr_get fX0_21 0 rfl rfl dX0_isLike_23 ?_
      refine rr_aload_n 1 dX0_isLike_26 rfl ?_
      refine rr_get fX0_21 1 rfl rfl dX0_isLike_27 ?_
      refine rr_icmp_ne 48 dX0_isLike_30 (by decide) (by omega) (by omega) (fun c_3 => ?_) (fun c_3 => ?_)
      · skip
        refine rr_iconst dX0_isLike_48 ?_
        exact rr_iret dX0_isLike_49 rfl rfl ⟨congrArg (fun z => some (Value.int (zz z))) (by simp [bI, *]), rfl⟩
      · skip
        refine rr_aload_n 0 dX0_isLike_33 rfl ?_
        refine rr_get fX0_24 0 rfl rfl dX0_isLike_34 ?_
        refine rr_aload_n 1 dX0_isLike_37 rfl ?_
        refine rr_get fX0_24 1 rfl rfl dX0_isLike_38 ?_
        refine rr_icmp_ne 48 dX0_isLike_41 (by decide) (by omega) (by omega) (fun c_4 => ?_) (fun c_4 => ?_)
        · skip
          refine rr_iconst dX0_isLike_48 ?_
          exact rr_iret dX0_isLike_49 rfl rfl ⟨congrArg (fun z => some (Value.int (zz z))) (by simp [bI, *]), rfl⟩
        · skip
          refine rr_iconst dX0_isLike_44 ?_
          refine rr_goto 49 dX0_isLike_45 (by decide) ?_
          exact rr_iret dX0_isLike_49 rfl rfl ⟨congrArg (fun z => some (Value.int (zz z))) (by simp [bI, *]), rfl⟩
set_option maxRecDepth 100000 in
set_option maxHeartbeats 1000000 in
theorem c_step (E : Ev) (d : Nat) (a : Nat) (h : Nat → Int) (dir : Int) (hd : 0 ≤ dir ∧ dir ≤ 4) (h0 : 0 ≤ h 0 ∧ h 0 ≤ 9) (h1 : 0 ≤ h 1 ∧ h 1 ≤ 9) : SP E mX0_step (d + 1) 0 0 [.ref a, .int (zz dir)] [(a, hO h)] (FP none [(a, hO (stp h dir))]) := by
  show RR E mX0_step (d + 1) 0 0 0 [(0, .ref a), (1, .int (zz dir))] [] [(a, hO h)] (FP none [(a, hO (stp h dir))])
  have he := eastw_rg dir
  have hs := southw_rg dir
  refine rr_iload_n 1 dX0_step_0 rfl ?_
  refine rr_if_lt 9 dX0_step_1 (by decide) (by omega) (fun c_1 => ?_) (fun c_1 => ?_)
  · skip
    exfalso; omega
  · skip
    refine rr_iload_n 1 dX0_step_4 rfl ?_
    refine rr_iconst dX0_step_5 ?_
    refine rr_icmp_le 10 dX0_step_6 (by decide) (by omega) (by omega) (fun c_2 => ?_) (fun c_2 => ?_)
    · skip
      refine rr_aload_n 0 dX0_step_10 rfl ?_
      refine rr_aload_n 0 dX0_step_11 rfl ?_
      refine rr_get fX0_15 0 rfl rfl dX0_step_12 ?_
      refine rr_getE rfl dX0_step_15 ?_
      refine rr_iload_n 1 dX0_step_18 rfl ?_
      refine rr_tldE (v := .int (zz (eastw dir))) dir.toNat (by omega) (by omega) (by rw [fE_at, Int.toNat_of_nonneg (by omega)]) dX0_step_19 ?_
      refine rr_iadd dX0_step_20 ?_
      refine rr_bipush dX0_step_21 (by decide) ?_
      refine rr_callFi (ws2 := [(a, hO h)]) (wr := [(a, hO h)]) (call_SN kX0_37 (c_within E (d + 0) ((h 0) + (eastw dir)) 9 (by omega) (by omega)) rfl (by omega) (by decide) (Nat.le_of_ble_eq_true rfl) (Nat.le_of_ble_eq_true rfl) dX0_step_23) [] [0] [0] rfl rfl rfl rfl rfl rfl rfl ?_
      refine rr_put (ws2 := [(a, hO (updI h 0 (clampI ((h 0) + (eastw dir)) 9)))]) fX0_15 0 rfl rfl rfl (Nat.le_of_ble_eq_true rfl) rfl dX0_step_26 ?_
      refine rr_aload_n 0 dX0_step_29 rfl ?_
      refine rr_aload_n 0 dX0_step_30 rfl ?_
      refine rr_get fX0_18 0 rfl rfl dX0_step_31 ?_
      refine rr_getS rfl dX0_step_34 ?_
      refine rr_iload_n 1 dX0_step_37 rfl ?_
      refine rr_tldS (v := .int (zz (southw dir))) dir.toNat (by omega) (by omega) (by rw [fS_at, Int.toNat_of_nonneg (by omega)]) dX0_step_38 ?_
      refine rr_iadd dX0_step_39 ?_
      refine rr_bipush dX0_step_40 (by decide) ?_
      refine rr_callFi (ws2 := [(a, hO (updI h 0 (clampI ((h 0) + (eastw dir)) 9)))]) (wr := [(a, hO (updI h 0 (clampI ((h 0) + (eastw dir)) 9)))]) (call_SN kX0_37 (c_within E (d + 0) ((h 1) + (southw dir)) 9 (by omega) (by omega)) rfl (by omega) (by decide) (Nat.le_of_ble_eq_true rfl) (Nat.le_of_ble_eq_true rfl) dX0_step_42) [] [0] [0] rfl rfl rfl rfl rfl rfl rfl ?_
      refine rr_put (ws2 := [(a, hO (updI (updI h 0 (clampI ((h 0) + (eastw dir)) 9)) 1 (clampI ((h 1) + (southw dir)) 9)))]) fX0_18 0 rfl rfl rfl (Nat.le_of_ble_eq_true rfl) rfl dX0_step_45 ?_
      exact rr_ret dX0_step_48 rfl ⟨rfl, rfl⟩
    · skip
      exfalso; omega
