set_option maxRecDepth 100000 in
set_option maxHeartbeats 4000000 in
theorem c_sign (E : Ev) (d : Nat) (s sg nm len : Nat) (tx : Nat → Int) (at_ : Nat) (htx : txOK tx len) (ha : at_ ≤ 2000) : SP E mX3_sign (d + 0) 0 0 [.ref s] [(s, ob 3 [.ref sg, .ref nm, .int (zz ↑len), .int (zz ↑at_)]), (sg, aC E 200 tx)] (FP (some (.int (zz (sgF tx len at_)))) [(s, ob 3 [.ref sg, .ref nm, .int (zz ↑len), .int (zz ↑at_)]), (sg, aC E 200 tx)]) := by
  show RR E mX3_sign (d + 0) 0 0 0 [(0, .ref s)] [] [(s, ob 3 [.ref sg, .ref nm, .int (zz ↑len), .int (zz ↑at_)]), (sg, aC E 200 tx)] (FP (some (.int (zz (sgF tx len at_)))) [(s, ob 3 [.ref sg, .ref nm, .int (zz ↑len), .int (zz ↑at_)]), (sg, aC E 200 tx)])
  have hlen := htx.1
  have hsg := fun a => sgF_rg (at_ := a) htx
  refine rr_aload_n 0 dX3_sign_0 rfl ?_
  refine rr_get fX3_28 0 rfl rfl dX3_sign_1 ?_
  refine rr_if_lt 40 dX3_sign_4 (by decide) (by omega) (fun c_1 => ?_) (fun c_1 => ?_)
  · skip
    exfalso; omega
  · skip
    refine rr_aload_n 0 dX3_sign_7 rfl ?_
    refine rr_get fX3_28 0 rfl rfl dX3_sign_8 ?_
    refine rr_aload_n 0 dX3_sign_11 rfl ?_
    refine rr_get fX3_19 0 rfl rfl dX3_sign_12 ?_
    refine rr_icmp_ge 40 dX3_sign_15 (by decide) (by omega) (by omega) (fun c_2 => ?_) (fun c_2 => ?_)
    · skip
      refine rr_iconst dX3_sign_40 ?_
      exact rr_iret dX3_sign_41 rfl rfl ⟨congrArg (fun z => some (Value.int (zz z))) (by unfold sgF; split <;> first | rfl | omega), rfl⟩
    · skip
      refine rr_aload_n 0 dX3_sign_18 rfl ?_
      refine rr_get fX3_28 0 rfl rfl dX3_sign_19 ?_
      refine rr_sipush dX3_sign_22 (by decide) ?_
      refine rr_icmp_ge 40 dX3_sign_25 (by decide) (by omega) (by omega) (fun c_3 => ?_) (fun c_3 => ?_)
      · skip
        exfalso; omega
      · skip
        refine rr_aload_n 0 dX3_sign_28 rfl ?_
        refine rr_get fX3_9 0 rfl rfl dX3_sign_29 ?_
        refine rr_aload_n 0 dX3_sign_32 rfl ?_
        refine rr_get fX3_28 0 rfl rfl dX3_sign_33 ?_
        refine rr_cald 1 at_ rfl rfl (by omega) (by omega) dX3_sign_36 ?_
        refine rr_goto 41 dX3_sign_37 (by decide) ?_
        exact rr_iret dX3_sign_41 rfl rfl ⟨congrArg (fun z => some (Value.int (zz z))) (by unfold sgF; split <;> first | rfl | omega), rfl⟩
set_option maxRecDepth 100000 in
set_option maxHeartbeats 4000000 in
theorem c_readFigure_y (E : Ev) (d : Nat) (s sg nm len : Nat) (tx : Nat → Int) (at_ : Nat) (htx : txOK tx len) (ha : at_ ≤ 2000) (hf : 48 ≤ sgF tx len at_ ∧ sgF tx len at_ ≤ 57) : SP E mX3_readFigure (d + 1) 0 0 [.ref s] [(s, ob 3 [.ref sg, .ref nm, .int (zz ↑len), .int (zz ↑at_)]), (sg, aC E 200 tx)] (FP (some (.int (zz ((sgF tx len at_) - 48)))) [(s, ob 3 [.ref sg, .ref nm, .int (zz ↑len), .int (zz (↑(at_ + 1)))]), (sg, aC E 200 tx)]) := by
  show RR E mX3_readFigure (d + 1) 0 0 0 [(0, .ref s)] [] [(s, ob 3 [.ref sg, .ref nm, .int (zz ↑len), .int (zz ↑at_)]), (sg, aC E 200 tx)] (FP (some (.int (zz ((sgF tx len at_) - 48)))) [(s, ob 3 [.ref sg, .ref nm, .int (zz ↑len), .int (zz (↑(at_ + 1)))]), (sg, aC E 200 tx)])
  have hlen := htx.1
  have hsg := fun a => sgF_rg (at_ := a) htx
  have hs0 := hsg at_
  have hs1 := hsg (at_ + 1)
  refine rr_aload_n 0 dX3_readFigure_0 rfl ?_
  refine rr_callFi (ws2 := [(s, ob 3 [.ref sg, .ref nm, .int (zz ↑len), .int (zz ↑at_)]), (sg, aC E 200 tx)]) (wr := []) (call_V (q0 := 0) kX3_35 (c_sign E (d + 0) s sg nm len tx at_ htx (by omega)) rfl rfl rfl rfl (by omega) (by decide) (Nat.le_of_ble_eq_true rfl) (Nat.le_of_ble_eq_true rfl) dX3_readFigure_1) [0, 1] [] [0, 1] rfl rfl rfl rfl rfl rfl rfl ?_
  refine rr_istore_n (lv2 := [(0, .ref s), (1, .int (zz (sgF tx len at_)))]) dX3_readFigure_4 (by decide) rfl ?_
  refine rr_iload_n 1 dX3_readFigure_5 rfl ?_
  refine rr_bipush dX3_readFigure_6 (by decide) ?_
  refine rr_icmp_lt 17 dX3_readFigure_8 (by decide) (by omega) (by omega) (fun c_1 => ?_) (fun c_1 => ?_)
  · skip
    exfalso; omega
  · skip
    refine rr_iload_n 1 dX3_readFigure_11 rfl ?_
    refine rr_bipush dX3_readFigure_12 (by decide) ?_
    refine rr_icmp_le 19 dX3_readFigure_14 (by decide) (by omega) (by omega) (fun c_2 => ?_) (fun c_2 => ?_)
    · skip
      refine rr_aload_n 0 dX3_readFigure_19 rfl ?_
      refine rr_dup dX3_readFigure_20 rfl ?_
      refine rr_get fX3_28 0 rfl rfl dX3_readFigure_21 ?_
      refine rr_iconst dX3_readFigure_24 ?_
      refine rr_iadd dX3_readFigure_25 ?_
      refine rr_put (ws2 := [(s, ob 3 [.ref sg, .ref nm, .int (zz ↑len), .int (zz (↑(at_ + 1)))]), (sg, aC E 200 tx)]) fX3_28 0 rfl rfl rfl (Nat.le_of_ble_eq_true rfl) rfl dX3_readFigure_26 ?_
      refine rr_iload_n 1 dX3_readFigure_29 rfl ?_
      refine rr_bipush dX3_readFigure_30 (by decide) ?_
      refine rr_isub dX3_readFigure_32 ?_
      exact rr_iret dX3_readFigure_33 rfl rfl ⟨rfl, rfl⟩
    · skip
      exfalso; omega
set_option maxRecDepth 100000 in
set_option maxHeartbeats 4000000 in
theorem c_readFigure_n (E : Ev) (d : Nat) (s sg nm len : Nat) (tx : Nat → Int) (at_ : Nat) (htx : txOK tx len) (ha : at_ ≤ 2000) (hf : ¬ (48 ≤ sgF tx len at_ ∧ sgF tx len at_ ≤ 57)) : SP E mX3_readFigure (d + 1) 0 0 [.ref s] [(s, ob 3 [.ref sg, .ref nm, .int (zz ↑len), .int (zz ↑at_)]), (sg, aC E 200 tx)] (FP (some (.int (zz (-1)))) [(s, ob 3 [.ref sg, .ref nm, .int (zz ↑len), .int (zz ↑at_)]), (sg, aC E 200 tx)]) := by
  show RR E mX3_readFigure (d + 1) 0 0 0 [(0, .ref s)] [] [(s, ob 3 [.ref sg, .ref nm, .int (zz ↑len), .int (zz ↑at_)]), (sg, aC E 200 tx)] (FP (some (.int (zz (-1)))) [(s, ob 3 [.ref sg, .ref nm, .int (zz ↑len), .int (zz ↑at_)]), (sg, aC E 200 tx)])
  have hlen := htx.1
  have hsg := fun a => sgF_rg (at_ := a) htx
  have hs0 := hsg at_
  have hs1 := hsg (at_ + 1)
  refine rr_aload_n 0 dX3_readFigure_0 rfl ?_
  refine rr_callFi (ws2 := [(s, ob 3 [.ref sg, .ref nm, .int (zz ↑len), .int (zz ↑at_)]), (sg, aC E 200 tx)]) (wr := []) (call_V (q0 := 0) kX3_35 (c_sign E (d + 0) s sg nm len tx at_ htx (by omega)) rfl rfl rfl rfl (by omega) (by decide) (Nat.le_of_ble_eq_true rfl) (Nat.le_of_ble_eq_true rfl) dX3_readFigure_1) [0, 1] [] [0, 1] rfl rfl rfl rfl rfl rfl rfl ?_
  refine rr_istore_n (lv2 := [(0, .ref s), (1, .int (zz (sgF tx len at_)))]) dX3_readFigure_4 (by decide) rfl ?_
  refine rr_iload_n 1 dX3_readFigure_5 rfl ?_
  refine rr_bipush dX3_readFigure_6 (by decide) ?_
  refine rr_icmp_lt 17 dX3_readFigure_8 (by decide) (by omega) (by omega) (fun c_1 => ?_) (fun c_1 => ?_)
  · skip
    refine rr_iconst dX3_readFigure_17 ?_
    exact rr_iret dX3_readFigure_18 rfl rfl ⟨rfl, rfl⟩
  · skip
    refine rr_iload_n 1 dX3_readFigure_11 rfl ?_
    refine rr_bipush dX3_readFigure_12 (by decide) ?_
    refine rr_icmp_le 19 dX3_readFigure_14 (by decide) (by omega) (by omega) (fun c_2 => ?_) (fun c_2 => ?_)
    · skip
      exfalso; omega
    · skip
      refine rr_iconst dX3_readFigure_17 ?_
      exact rr_iret dX3_readFigure_18 rfl rfl ⟨rfl, rfl⟩
set_option maxRecDepth 100000 in
set_option maxHeartbeats 4000000 in
theorem c_readNumber_0 (E : Ev) (d : Nat) (s sg nm len : Nat) (tx : Nat → Int) (at_ : Nat) (htx : txOK tx len) (ha : at_ ≤ 1000) (hf : ¬ (48 ≤ sgF tx len at_ ∧ sgF tx len at_ ≤ 57)) : SP E mX3_readNumber (d + 2) 0 0 [.ref s] [(s, ob 3 [.ref sg, .ref nm, .int (zz ↑len), .int (zz ↑at_)]), (sg, aC E 200 tx)] (FP (some (.int (zz (-1)))) [(s, ob 3 [.ref sg, .ref nm, .int (zz ↑len), .int (zz ↑at_)]), (sg, aC E 200 tx)]) := by
  show RR E mX3_readNumber (d + 2) 0 0 0 [(0, .ref s)] [] [(s, ob 3 [.ref sg, .ref nm, .int (zz ↑len), .int (zz ↑at_)]), (sg, aC E 200 tx)] (FP (some (.int (zz (-1)))) [(s, ob 3 [.ref sg, .ref nm, .int (zz ↑len), .int (zz ↑at_)]), (sg, aC E 200 tx)])
  have hlen := htx.1
  have hsg := fun a => sgF_rg (at_ := a) htx
  have hs0 := hsg at_
  have hs1 := hsg (at_ + 1)
  refine rr_aload_n 0 dX3_readNumber_0 rfl ?_
  refine rr_callFi (ws2 := [(s, ob 3 [.ref sg, .ref nm, .int (zz ↑len), .int (zz ↑at_)]), (sg, aC E 200 tx)]) (wr := []) (call_V (q0 := 0) kX3_69 (c_readFigure_n E (d + 0) s sg nm len tx at_ htx (by omega) hf) rfl rfl rfl rfl (by omega) (by decide) (Nat.le_of_ble_eq_true rfl) (Nat.le_of_ble_eq_true rfl) dX3_readNumber_1) [0, 1] [] [0, 1] rfl rfl rfl rfl rfl rfl rfl ?_
  refine rr_istore_n (lv2 := [(0, .ref s), (1, .int (zz (-1)))]) dX3_readNumber_4 (by decide) rfl ?_
  refine rr_iload_n 1 dX3_readNumber_5 rfl ?_
  refine rr_if_ge 11 dX3_readNumber_6 (by decide) (by omega) (fun c_1 => ?_) (fun c_1 => ?_)
  · skip
    exfalso; omega
  · skip
    refine rr_iload_n 1 dX3_readNumber_9 rfl ?_
    exact rr_iret dX3_readNumber_10 rfl rfl ⟨rfl, rfl⟩
set_option maxRecDepth 100000 in
set_option maxHeartbeats 4000000 in
theorem c_readNumber_1 (E : Ev) (d : Nat) (s sg nm len : Nat) (tx : Nat → Int) (at_ : Nat) (htx : txOK tx len) (ha : at_ ≤ 1000) (hf : 48 ≤ sgF tx len at_ ∧ sgF tx len at_ ≤ 57) (hg : ¬ (48 ≤ sgF tx len (at_ + 1) ∧ sgF tx len (at_ + 1) ≤ 57)) : SP E mX3_readNumber (d + 2) 0 0 [.ref s] [(s, ob 3 [.ref sg, .ref nm, .int (zz ↑len), .int (zz ↑at_)]), (sg, aC E 200 tx)] (FP (some (.int (zz ((sgF tx len at_) - 48)))) [(s, ob 3 [.ref sg, .ref nm, .int (zz ↑len), .int (zz (↑(at_ + 1)))]), (sg, aC E 200 tx)]) := by
  show RR E mX3_readNumber (d + 2) 0 0 0 [(0, .ref s)] [] [(s, ob 3 [.ref sg, .ref nm, .int (zz ↑len), .int (zz ↑at_)]), (sg, aC E 200 tx)] (FP (some (.int (zz ((sgF tx len at_) - 48)))) [(s, ob 3 [.ref sg, .ref nm, .int (zz ↑len), .int (zz (↑(at_ + 1)))]), (sg, aC E 200 tx)])
  have hlen := htx.1
  have hsg := fun a => sgF_rg (at_ := a) htx
  have hs0 := hsg at_
  have hs1 := hsg (at_ + 1)
  refine rr_aload_n 0 dX3_readNumber_0 rfl ?_
  refine rr_callFi (ws2 := [(s, ob 3 [.ref sg, .ref nm, .int (zz ↑len), .int (zz (↑(at_ + 1)))]), (sg, aC E 200 tx)]) (wr := []) (call_V (q0 := 0) kX3_69 (c_readFigure_y E (d + 0) s sg nm len tx at_ htx (by omega) hf) rfl rfl rfl rfl (by omega) (by decide) (Nat.le_of_ble_eq_true rfl) (Nat.le_of_ble_eq_true rfl) dX3_readNumber_1) [0, 1] [] [0, 1] rfl rfl rfl rfl rfl rfl rfl ?_
  refine rr_istore_n (lv2 := [(0, .ref s), (1, .int (zz ((sgF tx len at_) - 48)))]) dX3_readNumber_4 (by decide) rfl ?_
  refine rr_iload_n 1 dX3_readNumber_5 rfl ?_
  refine rr_if_ge 11 dX3_readNumber_6 (by decide) (by omega) (fun c_1 => ?_) (fun c_1 => ?_)
  · skip
    refine rr_aload_n 0 dX3_readNumber_11 rfl ?_
    refine rr_callFi (ws2 := [(s, ob 3 [.ref sg, .ref nm, .int (zz ↑len), .int (zz (↑(at_ + 1)))]), (sg, aC E 200 tx)]) (wr := []) (call_V (q0 := 0) kX3_69 (c_readFigure_n E (d + 0) s sg nm len tx (at_ + 1) htx (by omega) hg) rfl rfl rfl rfl (by omega) (by decide) (Nat.le_of_ble_eq_true rfl) (Nat.le_of_ble_eq_true rfl) dX3_readNumber_12) [0, 1] [] [0, 1] rfl rfl rfl rfl rfl rfl rfl ?_
    refine rr_istore_n (lv2 := [(0, .ref s), (1, .int (zz ((sgF tx len at_) - 48))), (2, .int (zz (-1)))]) dX3_readNumber_15 (by decide) rfl ?_
    refine rr_iload_n 2 dX3_readNumber_16 rfl ?_
    refine rr_if_ge 24 dX3_readNumber_17 (by decide) (by omega) (fun c_2 => ?_) (fun c_2 => ?_)
    · skip
      exfalso; omega
    · skip
      refine rr_iload_n 1 dX3_readNumber_20 rfl ?_
      refine rr_goto 30 dX3_readNumber_21 (by decide) ?_
      exact rr_iret dX3_readNumber_30 rfl rfl ⟨rfl, rfl⟩
  · skip
    exfalso; omega
set_option maxRecDepth 100000 in
set_option maxHeartbeats 4000000 in
theorem c_readNumber_2 (E : Ev) (d : Nat) (s sg nm len : Nat) (tx : Nat → Int) (at_ : Nat) (htx : txOK tx len) (ha : at_ ≤ 1000) (hf : 48 ≤ sgF tx len at_ ∧ sgF tx len at_ ≤ 57) (hg : 48 ≤ sgF tx len (at_ + 1) ∧ sgF tx len (at_ + 1) ≤ 57) : SP E mX3_readNumber (d + 2) 0 0 [.ref s] [(s, ob 3 [.ref sg, .ref nm, .int (zz ↑len), .int (zz ↑at_)]), (sg, aC E 200 tx)] (FP (some (.int (zz (10 * (sgF tx len at_ - 48) + (sgF tx len (at_ + 1) - 48))))) [(s, ob 3 [.ref sg, .ref nm, .int (zz ↑len), .int (zz (↑(at_ + 2)))]), (sg, aC E 200 tx)]) := by
  show RR E mX3_readNumber (d + 2) 0 0 0 [(0, .ref s)] [] [(s, ob 3 [.ref sg, .ref nm, .int (zz ↑len), .int (zz ↑at_)]), (sg, aC E 200 tx)] (FP (some (.int (zz (10 * (sgF tx len at_ - 48) + (sgF tx len (at_ + 1) - 48))))) [(s, ob 3 [.ref sg, .ref nm, .int (zz ↑len), .int (zz (↑(at_ + 2)))]), (sg, aC E 200 tx)])
  have hlen := htx.1
  have hsg := fun a => sgF_rg (at_ := a) htx
  have hs0 := hsg at_
  have hs1 := hsg (at_ + 1)
  refine rr_aload_n 0 dX3_readNumber_0 rfl ?_
  refine rr_callFi (ws2 := [(s, ob 3 [.ref sg, .ref nm, .int (zz ↑len), .int (zz (↑(at_ + 1)))]), (sg, aC E 200 tx)]) (wr := []) (call_V (q0 := 0) kX3_69 (c_readFigure_y E (d + 0) s sg nm len tx at_ htx (by omega) hf) rfl rfl rfl rfl (by omega) (by decide) (Nat.le_of_ble_eq_true rfl) (Nat.le_of_ble_eq_true rfl) dX3_readNumber_1) [0, 1] [] [0, 1] rfl rfl rfl rfl rfl rfl rfl ?_
  refine rr_istore_n (lv2 := [(0, .ref s), (1, .int (zz ((sgF tx len at_) - 48)))]) dX3_readNumber_4 (by decide) rfl ?_
  refine rr_iload_n 1 dX3_readNumber_5 rfl ?_
  refine rr_if_ge 11 dX3_readNumber_6 (by decide) (by omega) (fun c_1 => ?_) (fun c_1 => ?_)
  · skip
    refine rr_aload_n 0 dX3_readNumber_11 rfl ?_
    refine rr_callFi (ws2 := [(s, ob 3 [.ref sg, .ref nm, .int (zz ↑len), .int (zz (↑(at_ + 2)))]), (sg, aC E 200 tx)]) (wr := []) (call_V (q0 := 0) kX3_69 (c_readFigure_y E (d + 0) s sg nm len tx (at_ + 1) htx (by omega) hg) rfl rfl rfl rfl (by omega) (by decide) (Nat.le_of_ble_eq_true rfl) (Nat.le_of_ble_eq_true rfl) dX3_readNumber_12) [0, 1] [] [0, 1] rfl rfl rfl rfl rfl rfl rfl ?_
    refine rr_istore_n (lv2 := [(0, .ref s), (1, .int (zz ((sgF tx len at_) - 48))), (2, .int (zz ((sgF tx len (at_ + 1)) - 48)))]) dX3_readNumber_15 (by decide) rfl ?_
    refine rr_iload_n 2 dX3_readNumber_16 rfl ?_
    refine rr_if_ge 24 dX3_readNumber_17 (by decide) (by omega) (fun c_2 => ?_) (fun c_2 => ?_)
    · skip
      refine rr_bipush dX3_readNumber_24 (by decide) ?_
      refine rr_iload_n 1 dX3_readNumber_26 rfl ?_
      refine rr_imul dX3_readNumber_27 ?_
      refine rr_iload_n 2 dX3_readNumber_28 rfl ?_
      refine rr_iadd dX3_readNumber_29 ?_
      exact rr_iret dX3_readNumber_30 rfl rfl ⟨rfl, rfl⟩
    · skip
      exfalso; omega
  · skip
    exfalso; omega
set_option maxRecDepth 100000 in
set_option maxHeartbeats 4000000 in
theorem c_add_y (E : Ev) (d : Nat) (s sg nm len : Nat) (tx : Nat → Int) (at_ : Nat) (c : Int) (hl : len < 200) (hc : 0 ≤ c ∧ c < 65536) : SP E mX3_add (d + 0) 0 0 [.ref s, .int (zz c)] [(s, ob 3 [.ref sg, .ref nm, .int (zz ↑len), .int (zz ↑at_)]), (sg, aC E 200 tx)] (FP (some (.int (zz 1))) [(s, ob 3 [.ref sg, .ref nm, .int (zz (↑(len + 1))), .int (zz ↑at_)]), (sg, aC E 200 (updI tx len c))]) := by
  show RR E mX3_add (d + 0) 0 0 0 [(0, .ref s), (1, .int (zz c))] [] [(s, ob 3 [.ref sg, .ref nm, .int (zz ↑len), .int (zz ↑at_)]), (sg, aC E 200 tx)] (FP (some (.int (zz 1))) [(s, ob 3 [.ref sg, .ref nm, .int (zz (↑(len + 1))), .int (zz ↑at_)]), (sg, aC E 200 (updI tx len c))])
  refine rr_aload_n 0 dX3_add_0 rfl ?_
  refine rr_get fX3_19 0 rfl rfl dX3_add_1 ?_
  refine rr_sipush dX3_add_4 (by decide) ?_
  refine rr_icmp_lt 12 dX3_add_7 (by decide) (by omega) (by omega) (fun c_1 => ?_) (fun c_1 => ?_)
  · skip
    refine rr_aload_n 0 dX3_add_12 rfl ?_
    refine rr_get fX3_9 0 rfl rfl dX3_add_13 ?_
    refine rr_aload_n 0 dX3_add_16 rfl ?_
    refine rr_get fX3_19 0 rfl rfl dX3_add_17 ?_
    refine rr_iload_n 1 dX3_add_20 rfl ?_
    refine rr_cast (ws2 := [(s, ob 3 [.ref sg, .ref nm, .int (zz ↑len), .int (zz ↑at_)]), (sg, aC E 200 (updI tx len c))]) 1 len rfl rfl (by omega) (by omega) (by omega) rfl dX3_add_21 ?_
    refine rr_aload_n 0 dX3_add_22 rfl ?_
    refine rr_dup dX3_add_23 rfl ?_
    refine rr_get fX3_19 0 rfl rfl dX3_add_24 ?_
    refine rr_iconst dX3_add_27 ?_
    refine rr_iadd dX3_add_28 ?_
    refine rr_put (ws2 := [(s, ob 3 [.ref sg, .ref nm, .int (zz (↑(len + 1))), .int (zz ↑at_)]), (sg, aC E 200 (updI tx len c))]) fX3_19 0 rfl rfl rfl (Nat.le_of_ble_eq_true rfl) rfl dX3_add_29 ?_
    refine rr_iconst dX3_add_32 ?_
    exact rr_iret dX3_add_33 rfl rfl ⟨rfl, rfl⟩
  · skip
    exfalso; omega
set_option maxRecDepth 100000 in
set_option maxHeartbeats 4000000 in
theorem c_add_n (E : Ev) (d : Nat) (s sg nm len : Nat) (tx : Nat → Int) (at_ : Nat) (c : Int) (hl : len = 200) : SP E mX3_add (d + 0) 0 0 [.ref s, .int (zz c)] [(s, ob 3 [.ref sg, .ref nm, .int (zz ↑len), .int (zz ↑at_)]), (sg, aC E 200 tx)] (FP (some (.int (zz 0))) [(s, ob 3 [.ref sg, .ref nm, .int (zz ↑len), .int (zz ↑at_)]), (sg, aC E 200 tx)]) := by
  show RR E mX3_add (d + 0) 0 0 0 [(0, .ref s), (1, .int (zz c))] [] [(s, ob 3 [.ref sg, .ref nm, .int (zz ↑len), .int (zz ↑at_)]), (sg, aC E 200 tx)] (FP (some (.int (zz 0))) [(s, ob 3 [.ref sg, .ref nm, .int (zz ↑len), .int (zz ↑at_)]), (sg, aC E 200 tx)])
  refine rr_aload_n 0 dX3_add_0 rfl ?_
  refine rr_get fX3_19 0 rfl rfl dX3_add_1 ?_
  refine rr_sipush dX3_add_4 (by decide) ?_
  refine rr_icmp_lt 12 dX3_add_7 (by decide) (by omega) (by omega) (fun c_1 => ?_) (fun c_1 => ?_)
  · skip
    exfalso; omega
  · skip
    refine rr_iconst dX3_add_10 ?_
    exact rr_iret dX3_add_11 rfl rfl ⟨rfl, rfl⟩
set_option maxRecDepth 100000 in
set_option maxHeartbeats 4000000 in
theorem c_numbersOf (E : Ev) (d : Nat) (k : Int) (hk : 0 ≤ k ∧ k < 65536) : SP E mX3_numbersOf (d + 0) 0 0 [.int (zz k)] [] (FP (some (.int (zz (↑(numsF k))))) []) := by
  show RR E mX3_numbersOf (d + 0) 0 0 0 [(0, .int (zz k))] [] [] (FP (some (.int (zz (↑(numsF k))))) [])
  refine rr_iload_n 0 dX3_numbersOf_0 rfl ?_
  by_cases s_1_0 : k = 98
  · refine rr_lsw (off := 57) 58 dX3_numbersOf_1 (by decide) (by omega) (by rw [s_1_0]; decide) (by decide) ?_
    refine rr_iconst dX3_numbersOf_58 ?_
    exact rr_iret dX3_numbersOf_59 rfl rfl ⟨congrArg (fun z => some (Value.int (zz z))) (by unfold numsF; simp [*]), rfl⟩
  by_cases s_1_1 : k = 112
  · refine rr_lsw (off := 51) 52 dX3_numbersOf_1 (by decide) (by omega) (by rw [s_1_1]; decide) (by decide) ?_
    refine rr_iconst dX3_numbersOf_52 ?_
    exact rr_iret dX3_numbersOf_53 rfl rfl ⟨congrArg (fun z => some (Value.int (zz z))) (by unfold numsF; simp [*]), rfl⟩
  by_cases s_1_2 : k = 114
  · refine rr_lsw (off := 55) 56 dX3_numbersOf_1 (by decide) (by omega) (by rw [s_1_2]; decide) (by decide) ?_
    refine rr_iconst dX3_numbersOf_56 ?_
    exact rr_iret dX3_numbersOf_57 rfl rfl ⟨congrArg (fun z => some (Value.int (zz z))) (by unfold numsF; simp [*]), rfl⟩
  by_cases s_1_3 : k = 116
  · refine rr_lsw (off := 59) 60 dX3_numbersOf_1 (by decide) (by omega) (by rw [s_1_3]; decide) (by decide) ?_
    refine rr_iconst dX3_numbersOf_60 ?_
    exact rr_iret dX3_numbersOf_61 rfl rfl ⟨congrArg (fun z => some (Value.int (zz z))) (by unfold numsF; simp [*]), rfl⟩
  by_cases s_1_4 : k = 119
  · refine rr_lsw (off := 53) 54 dX3_numbersOf_1 (by decide) (by omega) (by rw [s_1_4]; decide) (by decide) ?_
    refine rr_iconst dX3_numbersOf_54 ?_
    exact rr_iret dX3_numbersOf_55 rfl rfl ⟨congrArg (fun z => some (Value.int (zz z))) (by unfold numsF; simp [*]), rfl⟩
  have rs_1_0 : ¬ (98 : Int) = k := fun h => s_1_0 h.symm
  have rs_1_1 : ¬ (112 : Int) = k := fun h => s_1_1 h.symm
  have rs_1_2 : ¬ (114 : Int) = k := fun h => s_1_2 h.symm
  have rs_1_3 : ¬ (116 : Int) = k := fun h => s_1_3 h.symm
  have rs_1_4 : ¬ (119 : Int) = k := fun h => s_1_4 h.symm
  refine rr_lsw (off := 61) 62 dX3_numbersOf_1 (by decide) (by omega) (by simp [Op.lookupswitch.offset, rs_1_0, rs_1_1, rs_1_2, rs_1_3, rs_1_4]) (by decide) ?_
  refine rr_iconst dX3_numbersOf_62 ?_
  exact rr_iret dX3_numbersOf_63 rfl rfl ⟨congrArg (fun z => some (Value.int (zz z))) (by unfold numsF; simp [*]), rfl⟩
set_option maxRecDepth 100000 in
set_option maxHeartbeats 4000000 in
theorem c_tell (E : Ev) (d : Nat) (s sg nm len : Nat) (tx : Nat → Int) (at_ : Nat) (t : Nat → Int) (p pK pL pQ pW pX pY pS : Nat) (np nr : Nat) (kd lf qt wd rx ry sh : Nat → Int) (k : Int) (hk : 0 ≤ k ∧ k < 65536) (hnm : nmOK t) (hn : np ≤ 7) (hr : nr ≤ 6) : SP E mX3_tell (d + 1) 0 0 [.ref s, .ref p, .int (zz k)] [(s, ob 3 [.ref sg, .ref nm, .int (zz ↑len), .int (zz ↑at_)]), (sg, aC E 200 tx), (nm, aI E 4 t), (p, ob 2 [.ref pK, .ref pL, .ref pQ, .ref pW, .ref pX, .ref pY, .ref pS, .int (zz ↑np), .int (zz ↑nr)]), (pK, aI E 7 kd), (pL, aI E 7 lf), (pQ, aI E 7 qt), (pW, aI E 10 wd), (pX, aI E 6 rx), (pY, aI E 6 ry), (pS, hO sh)] (oPost (tellF k t (np, kd, lf, qt, wd, nr, rx, ry, sh)) (fun P2 w => w = scW E s sg nm len tx at_ t ++ plW E p pK pL pQ pW pX pY pS P2) (fun w => w = scW E s sg nm len tx at_ t ++ plW E p pK pL pQ pW pX pY pS (np, kd, lf, qt, wd, nr, rx, ry, sh))) := by
  show RR E mX3_tell (d + 1) 0 0 0 [(0, .ref s), (1, .ref p), (2, .int (zz k))] [] [(s, ob 3 [.ref sg, .ref nm, .int (zz ↑len), .int (zz ↑at_)]), (sg, aC E 200 tx), (nm, aI E 4 t), (p, ob 2 [.ref pK, .ref pL, .ref pQ, .ref pW, .ref pX, .ref pY, .ref pS, .int (zz ↑np), .int (zz ↑nr)]), (pK, aI E 7 kd), (pL, aI E 7 lf), (pQ, aI E 7 qt), (pW, aI E 10 wd), (pX, aI E 6 rx), (pY, aI E 6 ry), (pS, hO sh)] (oPost (tellF k t (np, kd, lf, qt, wd, nr, rx, ry, sh)) (fun P2 w => w = scW E s sg nm len tx at_ t ++ plW E p pK pL pQ pW pX pY pS P2) (fun w => w = scW E s sg nm len tx at_ t ++ plW E p pK pL pQ pW pX pY pS (np, kd, lf, qt, wd, nr, rx, ry, sh)))
  have n0 := hnm 0 (by omega)
  have n1 := hnm 1 (by omega)
  have n2 := hnm 2 (by omega)
  have n3 := hnm 3 (by omega)
  refine rr_iload_n 2 dX3_tell_0 rfl ?_
  by_cases s_1_0 : k = 98
  · refine rr_lsw (off := 108) 109 dX3_tell_1 (by decide) (by omega) (by rw [s_1_0]; decide) (by decide) ?_
    refine rr_aload_n 1 dX3_tell_109 rfl ?_
    refine rr_aload_n 0 dX3_tell_110 rfl ?_
    refine rr_get fX3_15 0 rfl rfl dX3_tell_111 ?_
    refine rr_iconst dX3_tell_114 ?_
    refine rr_iald 2 0 rfl rfl (by omega) (by omega) dX3_tell_115 ?_
    refine rr_aload_n 0 dX3_tell_116 rfl ?_
    refine rr_get fX3_15 0 rfl rfl dX3_tell_117 ?_
    refine rr_iconst dX3_tell_120 ?_
    refine rr_iald 2 1 rfl rfl (by omega) (by omega) dX3_tell_121 ?_
    refine rr_aload_n 0 dX3_tell_122 rfl ?_
    refine rr_get fX3_15 0 rfl rfl dX3_tell_123 ?_
    refine rr_iconst dX3_tell_126 ?_
    refine rr_iald 2 2 rfl rfl (by omega) (by omega) dX3_tell_127 ?_
    refine rr_aload_n 0 dX3_tell_128 rfl ?_
    refine rr_get fX3_15 0 rfl rfl dX3_tell_129 ?_
    refine rr_iconst dX3_tell_132 ?_
    refine rr_iald 2 3 rfl rfl (by omega) (by omega) dX3_tell_133 ?_
    by_cases hc : t 0 ≤ 9 ∧ t 1 ≤ 9 ∧ 1 ≤ t 2 ∧ t 2 ≤ 9 ∧ t 3 ≤ 3
    · skip
      refine rr_callFi (ws2 := [(s, ob 3 [.ref sg, .ref nm, .int (zz ↑len), .int (zz ↑at_)]), (sg, aC E 200 tx), (nm, aI E 4 t), (p, ob 2 [.ref pK, .ref pL, .ref pQ, .ref pW, .ref pX, .ref pY, .ref pS, .int (zz ↑np), .int (zz ↑nr)]), (pK, aI E 7 kd), (pL, aI E 7 lf), (pQ, aI E 7 qt), (pW, aI E 10 wd), (pX, aI E 6 rx), (pY, aI E 6 ry), (pS, hO (updI (updI (updI (updI sh 0 (t 0)) 1 (t 1)) 2 (t 2)) 3 (t 3)))]) (wr := [(s, ob 3 [.ref sg, .ref nm, .int (zz ↑len), .int (zz ↑at_)]), (sg, aC E 200 tx), (nm, aI E 4 t), (pK, aI E 7 kd), (pL, aI E 7 lf), (pQ, aI E 7 qt), (pW, aI E 10 wd), (pX, aI E 6 rx), (pY, aI E 6 ry)]) (call_V (q0 := 0) kX3_61 (c_begin_y E (d + 0) p pK pL pQ pW pX pY pS np nr sh (t 0) (t 1) (t 2) (t 3) (by omega) (by omega) (by omega) (by omega) hc) rfl rfl rfl rfl (by omega) (by decide) (Nat.le_of_ble_eq_true rfl) (Nat.le_of_ble_eq_true rfl) dX3_tell_134) [3, 10] [0, 1, 2, 4, 5, 6, 7, 8, 9] [0, 1, 2, 9, 3, 4, 5, 6, 7, 8, 10] rfl rfl rfl rfl rfl rfl rfl ?_
      exact rr_iret dX3_tell_137 rfl rfl (oPost_some (x := (np, kd, lf, qt, wd, nr, rx, ry, updI (updI (updI (updI sh 0 (t 0)) 1 (t 1)) 2 (t 2)) 3 (t 3))) (tellF_b s_1_0 hc) rfl)
    · skip
      refine rr_callFi (ws2 := [(s, ob 3 [.ref sg, .ref nm, .int (zz ↑len), .int (zz ↑at_)]), (sg, aC E 200 tx), (nm, aI E 4 t), (p, ob 2 [.ref pK, .ref pL, .ref pQ, .ref pW, .ref pX, .ref pY, .ref pS, .int (zz ↑np), .int (zz ↑nr)]), (pK, aI E 7 kd), (pL, aI E 7 lf), (pQ, aI E 7 qt), (pW, aI E 10 wd), (pX, aI E 6 rx), (pY, aI E 6 ry), (pS, hO sh)]) (wr := [(s, ob 3 [.ref sg, .ref nm, .int (zz ↑len), .int (zz ↑at_)]), (sg, aC E 200 tx), (nm, aI E 4 t), (pK, aI E 7 kd), (pL, aI E 7 lf), (pQ, aI E 7 qt), (pW, aI E 10 wd), (pX, aI E 6 rx), (pY, aI E 6 ry)]) (call_V (q0 := 0) kX3_61 (c_begin_n E (d + 0) p pK pL pQ pW pX pY pS np nr sh (t 0) (t 1) (t 2) (t 3) (by omega) (by omega) (by omega) (by omega) hc) rfl rfl rfl rfl (by omega) (by decide) (Nat.le_of_ble_eq_true rfl) (Nat.le_of_ble_eq_true rfl) dX3_tell_134) [3, 10] [0, 1, 2, 4, 5, 6, 7, 8, 9] [0, 1, 2, 9, 3, 4, 5, 6, 7, 8, 10] rfl rfl rfl rfl rfl rfl rfl ?_
      exact rr_iret dX3_tell_137 rfl rfl (oPost_none (tellF_bn s_1_0 hc) rfl)
  by_cases s_1_1 : k = 112
  · refine rr_lsw (off := 51) 52 dX3_tell_1 (by decide) (by omega) (by rw [s_1_1]; decide) (by decide) ?_
    refine rr_aload_n 1 dX3_tell_52 rfl ?_
    refine rr_aload_n 0 dX3_tell_53 rfl ?_
    refine rr_get fX3_15 0 rfl rfl dX3_tell_54 ?_
    refine rr_iconst dX3_tell_57 ?_
    refine rr_iald 2 0 rfl rfl (by omega) (by omega) dX3_tell_58 ?_
    refine rr_aload_n 0 dX3_tell_59 rfl ?_
    refine rr_get fX3_15 0 rfl rfl dX3_tell_60 ?_
    refine rr_iconst dX3_tell_63 ?_
    refine rr_iald 2 1 rfl rfl (by omega) (by omega) dX3_tell_64 ?_
    refine rr_aload_n 0 dX3_tell_65 rfl ?_
    refine rr_get fX3_15 0 rfl rfl dX3_tell_66 ?_
    refine rr_iconst dX3_tell_69 ?_
    refine rr_iald 2 2 rfl rfl (by omega) (by omega) dX3_tell_70 ?_
    by_cases hc : np < 7 ∧ t 0 < 4 ∧ t 1 < 10 ∧ t 2 ≤ 3
    · skip
      refine rr_callFi (ws2 := [(s, ob 3 [.ref sg, .ref nm, .int (zz ↑len), .int (zz ↑at_)]), (sg, aC E 200 tx), (nm, aI E 4 t), (p, ob 2 [.ref pK, .ref pL, .ref pQ, .ref pW, .ref pX, .ref pY, .ref pS, .int (zz (↑(np + 1))), .int (zz ↑nr)]), (pK, aI E 7 (updI kd np (t 0))), (pL, aI E 7 (updI lf np (t 1))), (pQ, aI E 7 (updI qt np (t 2))), (pW, aI E 10 wd), (pX, aI E 6 rx), (pY, aI E 6 ry), (pS, hO sh)]) (wr := [(s, ob 3 [.ref sg, .ref nm, .int (zz ↑len), .int (zz ↑at_)]), (sg, aC E 200 tx), (nm, aI E 4 t), (pW, aI E 10 wd), (pX, aI E 6 rx), (pY, aI E 6 ry), (pS, hO sh)]) (call_V (q0 := 0) kX3_50 (c_addPeg_y E (d + 0) p pK pL pQ pW pX pY pS np nr kd lf qt (t 0) (t 1) (t 2) (by omega) (by omega) (by omega) (by omega) hc) rfl rfl rfl rfl (by omega) (by decide) (Nat.le_of_ble_eq_true rfl) (Nat.le_of_ble_eq_true rfl) dX3_tell_71) [3, 4, 5, 6] [0, 1, 2, 7, 8, 9, 10] [0, 1, 2, 7, 8, 9, 10, 3, 4, 5, 6] rfl rfl rfl rfl rfl rfl rfl ?_
      exact rr_iret dX3_tell_74 rfl rfl (oPost_some (x := (np + 1, updI kd np (t 0), updI lf np (t 1), updI qt np (t 2), wd, nr, rx, ry, sh)) (tellF_p s_1_1 hc) rfl)
    · skip
      refine rr_callFi (ws2 := [(s, ob 3 [.ref sg, .ref nm, .int (zz ↑len), .int (zz ↑at_)]), (sg, aC E 200 tx), (nm, aI E 4 t), (p, ob 2 [.ref pK, .ref pL, .ref pQ, .ref pW, .ref pX, .ref pY, .ref pS, .int (zz ↑np), .int (zz ↑nr)]), (pK, aI E 7 kd), (pL, aI E 7 lf), (pQ, aI E 7 qt), (pW, aI E 10 wd), (pX, aI E 6 rx), (pY, aI E 6 ry), (pS, hO sh)]) (wr := [(s, ob 3 [.ref sg, .ref nm, .int (zz ↑len), .int (zz ↑at_)]), (sg, aC E 200 tx), (nm, aI E 4 t), (pW, aI E 10 wd), (pX, aI E 6 rx), (pY, aI E 6 ry), (pS, hO sh)]) (call_V (q0 := 0) kX3_50 (c_addPeg_n E (d + 0) p pK pL pQ pW pX pY pS np nr kd lf qt (t 0) (t 1) (t 2) (by omega) (by omega) (by omega) (by omega) hc) rfl rfl rfl rfl (by omega) (by decide) (Nat.le_of_ble_eq_true rfl) (Nat.le_of_ble_eq_true rfl) dX3_tell_71) [3, 4, 5, 6] [0, 1, 2, 7, 8, 9, 10] [0, 1, 2, 7, 8, 9, 10, 3, 4, 5, 6] rfl rfl rfl rfl rfl rfl rfl ?_
      exact rr_iret dX3_tell_74 rfl rfl (oPost_none (tellF_pn s_1_1 hc) rfl)
  by_cases s_1_2 : k = 114
  · refine rr_lsw (off := 91) 92 dX3_tell_1 (by decide) (by omega) (by rw [s_1_2]; decide) (by decide) ?_
    refine rr_aload_n 1 dX3_tell_92 rfl ?_
    refine rr_aload_n 0 dX3_tell_93 rfl ?_
    refine rr_get fX3_15 0 rfl rfl dX3_tell_94 ?_
    refine rr_iconst dX3_tell_97 ?_
    refine rr_iald 2 0 rfl rfl (by omega) (by omega) dX3_tell_98 ?_
    refine rr_aload_n 0 dX3_tell_99 rfl ?_
    refine rr_get fX3_15 0 rfl rfl dX3_tell_100 ?_
    refine rr_iconst dX3_tell_103 ?_
    refine rr_iald 2 1 rfl rfl (by omega) (by omega) dX3_tell_104 ?_
    by_cases hc : nr < 6 ∧ t 0 ≤ 9 ∧ t 1 ≤ 9
    · skip
      refine rr_callFi (ws2 := [(s, ob 3 [.ref sg, .ref nm, .int (zz ↑len), .int (zz ↑at_)]), (sg, aC E 200 tx), (nm, aI E 4 t), (p, ob 2 [.ref pK, .ref pL, .ref pQ, .ref pW, .ref pX, .ref pY, .ref pS, .int (zz ↑np), .int (zz (↑(nr + 1)))]), (pK, aI E 7 kd), (pL, aI E 7 lf), (pQ, aI E 7 qt), (pW, aI E 10 wd), (pX, aI E 6 (updI rx nr (t 0))), (pY, aI E 6 (updI ry nr (t 1))), (pS, hO sh)]) (wr := [(s, ob 3 [.ref sg, .ref nm, .int (zz ↑len), .int (zz ↑at_)]), (sg, aC E 200 tx), (nm, aI E 4 t), (pK, aI E 7 kd), (pL, aI E 7 lf), (pQ, aI E 7 qt), (pW, aI E 10 wd), (pS, hO sh)]) (call_V (q0 := 0) kX3_58 (c_addRoof_y E (d + 0) p pK pL pQ pW pX pY pS np nr rx ry (t 0) (t 1) (by omega) (by omega) (by omega) hc) rfl rfl rfl rfl (by omega) (by decide) (Nat.le_of_ble_eq_true rfl) (Nat.le_of_ble_eq_true rfl) dX3_tell_105) [3, 8, 9] [0, 1, 2, 4, 5, 6, 7, 10] [0, 1, 2, 8, 3, 4, 5, 6, 9, 10, 7] rfl rfl rfl rfl rfl rfl rfl ?_
      exact rr_iret dX3_tell_108 rfl rfl (oPost_some (x := (np, kd, lf, qt, wd, nr + 1, updI rx nr (t 0), updI ry nr (t 1), sh)) (tellF_r s_1_2 hc) rfl)
    · skip
      refine rr_callFi (ws2 := [(s, ob 3 [.ref sg, .ref nm, .int (zz ↑len), .int (zz ↑at_)]), (sg, aC E 200 tx), (nm, aI E 4 t), (p, ob 2 [.ref pK, .ref pL, .ref pQ, .ref pW, .ref pX, .ref pY, .ref pS, .int (zz ↑np), .int (zz ↑nr)]), (pK, aI E 7 kd), (pL, aI E 7 lf), (pQ, aI E 7 qt), (pW, aI E 10 wd), (pX, aI E 6 rx), (pY, aI E 6 ry), (pS, hO sh)]) (wr := [(s, ob 3 [.ref sg, .ref nm, .int (zz ↑len), .int (zz ↑at_)]), (sg, aC E 200 tx), (nm, aI E 4 t), (pK, aI E 7 kd), (pL, aI E 7 lf), (pQ, aI E 7 qt), (pW, aI E 10 wd), (pS, hO sh)]) (call_V (q0 := 0) kX3_58 (c_addRoof_n E (d + 0) p pK pL pQ pW pX pY pS np nr rx ry (t 0) (t 1) (by omega) (by omega) (by omega) hc) rfl rfl rfl rfl (by omega) (by decide) (Nat.le_of_ble_eq_true rfl) (Nat.le_of_ble_eq_true rfl) dX3_tell_105) [3, 8, 9] [0, 1, 2, 4, 5, 6, 7, 10] [0, 1, 2, 8, 3, 4, 5, 6, 9, 10, 7] rfl rfl rfl rfl rfl rfl rfl ?_
      exact rr_iret dX3_tell_108 rfl rfl (oPost_none (tellF_rn s_1_2 hc) rfl)
  by_cases s_1_3 : k = 116
  · refine rr_lsw (off := 137) 138 dX3_tell_1 (by decide) (by omega) (by rw [s_1_3]; decide) (by decide) ?_
    refine rr_aload_n 1 dX3_tell_138 rfl ?_
    refine rr_aload_n 0 dX3_tell_139 rfl ?_
    refine rr_get fX3_15 0 rfl rfl dX3_tell_140 ?_
    refine rr_iconst dX3_tell_143 ?_
    refine rr_iald 2 0 rfl rfl (by omega) (by omega) dX3_tell_144 ?_
    by_cases hc : 1 ≤ t 0 ∧ t 0 ≤ 2
    · skip
      refine rr_callFi (ws2 := [(s, ob 3 [.ref sg, .ref nm, .int (zz ↑len), .int (zz ↑at_)]), (sg, aC E 200 tx), (nm, aI E 4 t), (p, ob 2 [.ref pK, .ref pL, .ref pQ, .ref pW, .ref pX, .ref pY, .ref pS, .int (zz ↑np), .int (zz ↑nr)]), (pK, aI E 7 kd), (pL, aI E 7 lf), (pQ, aI E 7 qt), (pW, aI E 10 wd), (pX, aI E 6 rx), (pY, aI E 6 ry), (pS, hO (updI sh 5 (t 0)))]) (wr := [(s, ob 3 [.ref sg, .ref nm, .int (zz ↑len), .int (zz ↑at_)]), (sg, aC E 200 tx), (nm, aI E 4 t), (pK, aI E 7 kd), (pL, aI E 7 lf), (pQ, aI E 7 qt), (pW, aI E 10 wd), (pX, aI E 6 rx), (pY, aI E 6 ry)]) (call_V (q0 := 0) kX3_65 (c_setRiders_y E (d + 0) p pK pL pQ pW pX pY pS np nr sh (t 0) (by omega) hc) rfl rfl rfl rfl (by omega) (by decide) (Nat.le_of_ble_eq_true rfl) (Nat.le_of_ble_eq_true rfl) dX3_tell_145) [3, 10] [0, 1, 2, 4, 5, 6, 7, 8, 9] [0, 1, 2, 9, 3, 4, 5, 6, 7, 8, 10] rfl rfl rfl rfl rfl rfl rfl ?_
      exact rr_iret dX3_tell_148 rfl rfl (oPost_some (x := (np, kd, lf, qt, wd, nr, rx, ry, updI sh 5 (t 0))) (tellF_t s_1_3 hc) rfl)
    · skip
      refine rr_callFi (ws2 := [(s, ob 3 [.ref sg, .ref nm, .int (zz ↑len), .int (zz ↑at_)]), (sg, aC E 200 tx), (nm, aI E 4 t), (p, ob 2 [.ref pK, .ref pL, .ref pQ, .ref pW, .ref pX, .ref pY, .ref pS, .int (zz ↑np), .int (zz ↑nr)]), (pK, aI E 7 kd), (pL, aI E 7 lf), (pQ, aI E 7 qt), (pW, aI E 10 wd), (pX, aI E 6 rx), (pY, aI E 6 ry), (pS, hO sh)]) (wr := [(s, ob 3 [.ref sg, .ref nm, .int (zz ↑len), .int (zz ↑at_)]), (sg, aC E 200 tx), (nm, aI E 4 t), (pK, aI E 7 kd), (pL, aI E 7 lf), (pQ, aI E 7 qt), (pW, aI E 10 wd), (pX, aI E 6 rx), (pY, aI E 6 ry)]) (call_V (q0 := 0) kX3_65 (c_setRiders_n E (d + 0) p pK pL pQ pW pX pY pS np nr sh (t 0) (by omega) hc) rfl rfl rfl rfl (by omega) (by decide) (Nat.le_of_ble_eq_true rfl) (Nat.le_of_ble_eq_true rfl) dX3_tell_145) [3, 10] [0, 1, 2, 4, 5, 6, 7, 8, 9] [0, 1, 2, 9, 3, 4, 5, 6, 7, 8, 10] rfl rfl rfl rfl rfl rfl rfl ?_
      exact rr_iret dX3_tell_148 rfl rfl (oPost_none (tellF_tn s_1_3 hc) rfl)
  by_cases s_1_4 : k = 119
  · refine rr_lsw (off := 74) 75 dX3_tell_1 (by decide) (by omega) (by rw [s_1_4]; decide) (by decide) ?_
    refine rr_aload_n 1 dX3_tell_75 rfl ?_
    refine rr_aload_n 0 dX3_tell_76 rfl ?_
    refine rr_get fX3_15 0 rfl rfl dX3_tell_77 ?_
    refine rr_iconst dX3_tell_80 ?_
    refine rr_iald 2 0 rfl rfl (by omega) (by omega) dX3_tell_81 ?_
    refine rr_aload_n 0 dX3_tell_82 rfl ?_
    refine rr_get fX3_15 0 rfl rfl dX3_tell_83 ?_
    refine rr_iconst dX3_tell_86 ?_
    refine rr_iald 2 1 rfl rfl (by omega) (by omega) dX3_tell_87 ?_
    by_cases hc : 1 ≤ t 0 ∧ t 0 ≤ 9 ∧ t 1 ≤ 4
    · skip
      refine rr_callFi (ws2 := [(s, ob 3 [.ref sg, .ref nm, .int (zz ↑len), .int (zz ↑at_)]), (sg, aC E 200 tx), (nm, aI E 4 t), (p, ob 2 [.ref pK, .ref pL, .ref pQ, .ref pW, .ref pX, .ref pY, .ref pS, .int (zz ↑np), .int (zz ↑nr)]), (pK, aI E 7 kd), (pL, aI E 7 lf), (pQ, aI E 7 qt), (pW, aI E 10 (updI wd ((t 0).toNat) (t 1))), (pX, aI E 6 rx), (pY, aI E 6 ry), (pS, hO sh)]) (wr := [(s, ob 3 [.ref sg, .ref nm, .int (zz ↑len), .int (zz ↑at_)]), (sg, aC E 200 tx), (nm, aI E 4 t), (pK, aI E 7 kd), (pL, aI E 7 lf), (pQ, aI E 7 qt), (pX, aI E 6 rx), (pY, aI E 6 ry), (pS, hO sh)]) (call_V (q0 := 0) kX3_54 (c_setWind_y E (d + 0) p pK pL pQ pW pX pY pS np nr wd (t 0) (t 1) (by omega) (by omega) hc) rfl rfl rfl rfl (by omega) (by decide) (Nat.le_of_ble_eq_true rfl) (Nat.le_of_ble_eq_true rfl) dX3_tell_88) [3, 7] [0, 1, 2, 4, 5, 6, 8, 9, 10] [0, 1, 2, 9, 3, 4, 5, 10, 6, 7, 8] rfl rfl rfl rfl rfl rfl rfl ?_
      exact rr_iret dX3_tell_91 rfl rfl (oPost_some (x := (np, kd, lf, qt, updI wd (t 0).toNat (t 1), nr, rx, ry, sh)) (tellF_w s_1_4 hc) rfl)
    · skip
      refine rr_callFi (ws2 := [(s, ob 3 [.ref sg, .ref nm, .int (zz ↑len), .int (zz ↑at_)]), (sg, aC E 200 tx), (nm, aI E 4 t), (p, ob 2 [.ref pK, .ref pL, .ref pQ, .ref pW, .ref pX, .ref pY, .ref pS, .int (zz ↑np), .int (zz ↑nr)]), (pK, aI E 7 kd), (pL, aI E 7 lf), (pQ, aI E 7 qt), (pW, aI E 10 wd), (pX, aI E 6 rx), (pY, aI E 6 ry), (pS, hO sh)]) (wr := [(s, ob 3 [.ref sg, .ref nm, .int (zz ↑len), .int (zz ↑at_)]), (sg, aC E 200 tx), (nm, aI E 4 t), (pK, aI E 7 kd), (pL, aI E 7 lf), (pQ, aI E 7 qt), (pX, aI E 6 rx), (pY, aI E 6 ry), (pS, hO sh)]) (call_V (q0 := 0) kX3_54 (c_setWind_n E (d + 0) p pK pL pQ pW pX pY pS np nr wd (t 0) (t 1) (by omega) (by omega) hc) rfl rfl rfl rfl (by omega) (by decide) (Nat.le_of_ble_eq_true rfl) (Nat.le_of_ble_eq_true rfl) dX3_tell_88) [3, 7] [0, 1, 2, 4, 5, 6, 8, 9, 10] [0, 1, 2, 9, 3, 4, 5, 10, 6, 7, 8] rfl rfl rfl rfl rfl rfl rfl ?_
      exact rr_iret dX3_tell_91 rfl rfl (oPost_none (tellF_wn s_1_4 hc) rfl)
  have rs_1_0 : ¬ (98 : Int) = k := fun h => s_1_0 h.symm
  have rs_1_1 : ¬ (112 : Int) = k := fun h => s_1_1 h.symm
  have rs_1_2 : ¬ (114 : Int) = k := fun h => s_1_2 h.symm
  have rs_1_3 : ¬ (116 : Int) = k := fun h => s_1_3 h.symm
  have rs_1_4 : ¬ (119 : Int) = k := fun h => s_1_4 h.symm
  refine rr_lsw (off := 148) 149 dX3_tell_1 (by decide) (by omega) (by simp [Op.lookupswitch.offset, rs_1_0, rs_1_1, rs_1_2, rs_1_3, rs_1_4]) (by decide) ?_
  refine rr_iconst dX3_tell_149 ?_
  exact rr_iret dX3_tell_150 rfl rfl (oPost_none (tellF_d (by refine ⟨?_, ?_, ?_, ?_, ?_⟩ <;> assumption)) rfl)
