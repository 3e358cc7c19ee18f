set_option maxRecDepth 100000 in
set_option maxHeartbeats 4000000 in
theorem c_isFull8 (E : Ev) (d : Nat) (f ar : Nat) (u : Nat → Nat) (sz : Nat) (hs : sz ≤ 8) : SP E mX4_isFull (d + 0) 0 0 [.ref f] [(f, ob 4 [.ref ar, .int (zz ↑sz)]), (ar, aH E 8 (fun i => some (u i)))] (FP (some (.int (zz (bI (decide (8 ≤ sz)))))) [(f, ob 4 [.ref ar, .int (zz ↑sz)]), (ar, aH E 8 (fun i => some (u i)))]) := by
  show RR E mX4_isFull (d + 0) 0 0 0 [(0, .ref f)] [] [(f, ob 4 [.ref ar, .int (zz ↑sz)]), (ar, aH E 8 (fun i => some (u i)))] (FP (some (.int (zz (bI (decide (8 ≤ sz)))))) [(f, ob 4 [.ref ar, .int (zz ↑sz)]), (ar, aH E 8 (fun i => some (u i)))])
  refine rr_aload_n 0 dX4_isFull_0 rfl ?_
  refine rr_get fX4_22 0 rfl rfl dX4_isFull_1 ?_
  refine rr_aload_n 0 dX4_isFull_4 rfl ?_
  refine rr_get fX4_15 0 rfl rfl dX4_isFull_5 ?_
  refine rr_alenH 1 rfl dX4_isFull_8 ?_
  refine rr_icmp_lt 16 dX4_isFull_9 (by decide) (by omega) (by omega) (fun c_1 => ?_) (fun c_1 => ?_)
  · skip
    refine rr_iconst dX4_isFull_16 ?_
    exact rr_iret dX4_isFull_17 rfl rfl ⟨congrArg (fun z => some (Value.int (zz z))) (by unfold bI; simp <;> omega), rfl⟩
  · skip
    refine rr_iconst dX4_isFull_12 ?_
    refine rr_goto 17 dX4_isFull_13 (by decide) ?_
    exact rr_iret dX4_isFull_17 rfl rfl ⟨congrArg (fun z => some (Value.int (zz z))) (by unfold bI; simp <;> omega), rfl⟩
set_option maxRecDepth 100000 in
set_option maxHeartbeats 4000000 in
theorem c_isFull2 (E : Ev) (d : Nat) (f ar : Nat) (u : Nat → Nat) (sz : Nat) (hs : sz ≤ 8) : SP E mX4_isFull (d + 0) 0 0 [.ref f] [(f, ob 4 [.ref ar, .int (zz ↑sz)]), (ar, aH E 2 (fun i => some (u i)))] (FP (some (.int (zz (bI (decide (2 ≤ sz)))))) [(f, ob 4 [.ref ar, .int (zz ↑sz)]), (ar, aH E 2 (fun i => some (u i)))]) := by
  show RR E mX4_isFull (d + 0) 0 0 0 [(0, .ref f)] [] [(f, ob 4 [.ref ar, .int (zz ↑sz)]), (ar, aH E 2 (fun i => some (u i)))] (FP (some (.int (zz (bI (decide (2 ≤ sz)))))) [(f, ob 4 [.ref ar, .int (zz ↑sz)]), (ar, aH E 2 (fun i => some (u i)))])
  refine rr_aload_n 0 dX4_isFull_0 rfl ?_
  refine rr_get fX4_22 0 rfl rfl dX4_isFull_1 ?_
  refine rr_aload_n 0 dX4_isFull_4 rfl ?_
  refine rr_get fX4_15 0 rfl rfl dX4_isFull_5 ?_
  refine rr_alenH 1 rfl dX4_isFull_8 ?_
  refine rr_icmp_lt 16 dX4_isFull_9 (by decide) (by omega) (by omega) (fun c_1 => ?_) (fun c_1 => ?_)
  · skip
    refine rr_iconst dX4_isFull_16 ?_
    exact rr_iret dX4_isFull_17 rfl rfl ⟨congrArg (fun z => some (Value.int (zz z))) (by unfold bI; simp <;> omega), rfl⟩
  · skip
    refine rr_iconst dX4_isFull_12 ?_
    refine rr_goto 17 dX4_isFull_13 (by decide) ?_
    exact rr_iret dX4_isFull_17 rfl rfl ⟨congrArg (fun z => some (Value.int (zz z))) (by unfold bI; simp <;> omega), rfl⟩
set_option maxRecDepth 100000 in
set_option maxHeartbeats 4000000 in
theorem c_dropOldest (E : Ev) (d : Nat) (f ar : Nat) (u : Nat → Nat) (g : Nat → Nat → Int) : SP E mX4_dropOldest (d + 0) 0 0 [.ref f] [(f, ob 4 [.ref ar, .int (zz 8)]), (ar, aH E 8 (fun i => some (u i))), ((u 0), hO (g 0)), ((u 1), hO (g 1)), ((u 2), hO (g 2)), ((u 3), hO (g 3)), ((u 4), hO (g 4)), ((u 5), hO (g 5)), ((u 6), hO (g 6)), ((u 7), hO (g 7))] (FP none (shW8 E f ar (rot8 u) (rot8 g) 7)) := by
  show RR E mX4_dropOldest (d + 0) 0 0 0 [(0, .ref f)] [] [(f, ob 4 [.ref ar, .int (zz 8)]), (ar, aH E 8 (fun i => some (u i))), ((u 0), hO (g 0)), ((u 1), hO (g 1)), ((u 2), hO (g 2)), ((u 3), hO (g 3)), ((u 4), hO (g 4)), ((u 5), hO (g 5)), ((u 6), hO (g 6)), ((u 7), hO (g 7))] (FP none (shW8 E f ar (rot8 u) (rot8 g) 7))
  refine rr_aload_n 0 dX4_dropOldest_0 rfl ?_
  refine rr_get fX4_15 0 rfl rfl dX4_dropOldest_1 ?_
  refine rr_iconst dX4_dropOldest_4 ?_
  refine rr_aald (b := (u 0)) 1 0 rfl rfl (by omega) (by omega) rfl dX4_dropOldest_5 ?_
  refine rr_astore_n (lv2 := [(0, .ref f), (1, .ref (u 0))]) dX4_dropOldest_6 (by decide) rfl ?_
  refine rr_iconst dX4_dropOldest_7 ?_
  refine rr_istore_n (lv2 := [(0, .ref f), (1, .ref (u 0)), (2, .int (zz 1))]) dX4_dropOldest_8 (by decide) rfl ?_
  refine rr_iload_n 2 dX4_dropOldest_9 rfl ?_
  refine rr_aload_n 0 dX4_dropOldest_10 rfl ?_
  refine rr_get fX4_15 0 rfl rfl dX4_dropOldest_11 ?_
  refine rr_alenH 1 rfl dX4_dropOldest_14 ?_
  refine rr_icmp_ge 38 dX4_dropOldest_15 (by decide) (by omega) (by omega) (fun c_1 => ?_) (fun c_1 => ?_)
  · skip
    exfalso; omega
  · skip
    refine rr_aload_n 0 dX4_dropOldest_18 rfl ?_
    refine rr_get fX4_15 0 rfl rfl dX4_dropOldest_19 ?_
    refine rr_iload_n 2 dX4_dropOldest_22 rfl ?_
    refine rr_iconst dX4_dropOldest_23 ?_
    refine rr_isub dX4_dropOldest_24 ?_
    refine rr_top (b := 0) (by decide) ?_
    refine rr_aload_n 0 dX4_dropOldest_25 rfl ?_
    refine rr_get fX4_15 0 rfl rfl dX4_dropOldest_26 ?_
    refine rr_iload_n 2 dX4_dropOldest_29 rfl ?_
    refine rr_aald (b := (u 1)) 1 1 rfl rfl (by omega) (by omega) rfl dX4_dropOldest_30 ?_
    refine rr_aast (ws2 := [(f, ob 4 [.ref ar, .int (zz 8)]), (ar, aH E 8 (va_up (fun i => some (u i)) 0 (some (u 1)))), ((u 0), hO (g 0)), ((u 1), hO (g 1)), ((u 2), hO (g 2)), ((u 3), hO (g 3)), ((u 4), hO (g 4)), ((u 5), hO (g 5)), ((u 6), hO (g 6)), ((u 7), hO (g 7))]) 1 0 3 rfl rfl rfl (by omega) (by omega) rfl dX4_dropOldest_31 ?_
    refine rr_iinc (lv2 := [(0, .ref f), (1, .ref (u 0)), (2, .int (zz 2))]) 2 dX4_dropOldest_32 rfl (by decide) rfl ?_
    refine rr_goto 9 dX4_dropOldest_35 (by decide) ?_
    refine rr_iload_n 2 dX4_dropOldest_9 rfl ?_
    refine rr_aload_n 0 dX4_dropOldest_10 rfl ?_
    refine rr_get fX4_15 0 rfl rfl dX4_dropOldest_11 ?_
    refine rr_alenH 1 rfl dX4_dropOldest_14 ?_
    refine rr_icmp_ge 38 dX4_dropOldest_15 (by decide) (by omega) (by omega) (fun c_2 => ?_) (fun c_2 => ?_)
    · skip
      exfalso; omega
    · skip
      refine rr_aload_n 0 dX4_dropOldest_18 rfl ?_
      refine rr_get fX4_15 0 rfl rfl dX4_dropOldest_19 ?_
      refine rr_iload_n 2 dX4_dropOldest_22 rfl ?_
      refine rr_iconst dX4_dropOldest_23 ?_
      refine rr_isub dX4_dropOldest_24 ?_
      refine rr_top (b := 1) (by decide) ?_
      refine rr_aload_n 0 dX4_dropOldest_25 rfl ?_
      refine rr_get fX4_15 0 rfl rfl dX4_dropOldest_26 ?_
      refine rr_iload_n 2 dX4_dropOldest_29 rfl ?_
      refine rr_aald (b := (u 2)) 1 2 rfl rfl (by omega) (by omega) rfl dX4_dropOldest_30 ?_
      refine rr_aast (ws2 := [(f, ob 4 [.ref ar, .int (zz 8)]), (ar, aH E 8 (va_up (va_up (fun i => some (u i)) 0 (some (u 1))) 1 (some (u 2)))), ((u 0), hO (g 0)), ((u 1), hO (g 1)), ((u 2), hO (g 2)), ((u 3), hO (g 3)), ((u 4), hO (g 4)), ((u 5), hO (g 5)), ((u 6), hO (g 6)), ((u 7), hO (g 7))]) 1 1 4 rfl rfl rfl (by omega) (by omega) rfl dX4_dropOldest_31 ?_
      refine rr_iinc (lv2 := [(0, .ref f), (1, .ref (u 0)), (2, .int (zz 3))]) 2 dX4_dropOldest_32 rfl (by decide) rfl ?_
      refine rr_goto 9 dX4_dropOldest_35 (by decide) ?_
      refine rr_iload_n 2 dX4_dropOldest_9 rfl ?_
      refine rr_aload_n 0 dX4_dropOldest_10 rfl ?_
      refine rr_get fX4_15 0 rfl rfl dX4_dropOldest_11 ?_
      refine rr_alenH 1 rfl dX4_dropOldest_14 ?_
      refine rr_icmp_ge 38 dX4_dropOldest_15 (by decide) (by omega) (by omega) (fun c_3 => ?_) (fun c_3 => ?_)
      · skip
        exfalso; omega
      · skip
        refine rr_aload_n 0 dX4_dropOldest_18 rfl ?_
        refine rr_get fX4_15 0 rfl rfl dX4_dropOldest_19 ?_
        refine rr_iload_n 2 dX4_dropOldest_22 rfl ?_
        refine rr_iconst dX4_dropOldest_23 ?_
        refine rr_isub dX4_dropOldest_24 ?_
        refine rr_top (b := 2) (by decide) ?_
        refine rr_aload_n 0 dX4_dropOldest_25 rfl ?_
        refine rr_get fX4_15 0 rfl rfl dX4_dropOldest_26 ?_
        refine rr_iload_n 2 dX4_dropOldest_29 rfl ?_
        refine rr_aald (b := (u 3)) 1 3 rfl rfl (by omega) (by omega) rfl dX4_dropOldest_30 ?_
        refine rr_aast (ws2 := [(f, ob 4 [.ref ar, .int (zz 8)]), (ar, aH E 8 (va_up (va_up (va_up (fun i => some (u i)) 0 (some (u 1))) 1 (some (u 2))) 2 (some (u 3)))), ((u 0), hO (g 0)), ((u 1), hO (g 1)), ((u 2), hO (g 2)), ((u 3), hO (g 3)), ((u 4), hO (g 4)), ((u 5), hO (g 5)), ((u 6), hO (g 6)), ((u 7), hO (g 7))]) 1 2 5 rfl rfl rfl (by omega) (by omega) rfl dX4_dropOldest_31 ?_
        refine rr_iinc (lv2 := [(0, .ref f), (1, .ref (u 0)), (2, .int (zz 4))]) 2 dX4_dropOldest_32 rfl (by decide) rfl ?_
        refine rr_goto 9 dX4_dropOldest_35 (by decide) ?_
        refine rr_iload_n 2 dX4_dropOldest_9 rfl ?_
        refine rr_aload_n 0 dX4_dropOldest_10 rfl ?_
        refine rr_get fX4_15 0 rfl rfl dX4_dropOldest_11 ?_
        refine rr_alenH 1 rfl dX4_dropOldest_14 ?_
        refine rr_icmp_ge 38 dX4_dropOldest_15 (by decide) (by omega) (by omega) (fun c_4 => ?_) (fun c_4 => ?_)
        · skip
          exfalso; omega
        · skip
          refine rr_aload_n 0 dX4_dropOldest_18 rfl ?_
          refine rr_get fX4_15 0 rfl rfl dX4_dropOldest_19 ?_
          refine rr_iload_n 2 dX4_dropOldest_22 rfl ?_
          refine rr_iconst dX4_dropOldest_23 ?_
          refine rr_isub dX4_dropOldest_24 ?_
          refine rr_top (b := 3) (by decide) ?_
          refine rr_aload_n 0 dX4_dropOldest_25 rfl ?_
          refine rr_get fX4_15 0 rfl rfl dX4_dropOldest_26 ?_
          refine rr_iload_n 2 dX4_dropOldest_29 rfl ?_
          refine rr_aald (b := (u 4)) 1 4 rfl rfl (by omega) (by omega) rfl dX4_dropOldest_30 ?_
          refine rr_aast (ws2 := [(f, ob 4 [.ref ar, .int (zz 8)]), (ar, aH E 8 (va_up (va_up (va_up (va_up (fun i => some (u i)) 0 (some (u 1))) 1 (some (u 2))) 2 (some (u 3))) 3 (some (u 4)))), ((u 0), hO (g 0)), ((u 1), hO (g 1)), ((u 2), hO (g 2)), ((u 3), hO (g 3)), ((u 4), hO (g 4)), ((u 5), hO (g 5)), ((u 6), hO (g 6)), ((u 7), hO (g 7))]) 1 3 6 rfl rfl rfl (by omega) (by omega) rfl dX4_dropOldest_31 ?_
          refine rr_iinc (lv2 := [(0, .ref f), (1, .ref (u 0)), (2, .int (zz 5))]) 2 dX4_dropOldest_32 rfl (by decide) rfl ?_
          refine rr_goto 9 dX4_dropOldest_35 (by decide) ?_
          refine rr_iload_n 2 dX4_dropOldest_9 rfl ?_
          refine rr_aload_n 0 dX4_dropOldest_10 rfl ?_
          refine rr_get fX4_15 0 rfl rfl dX4_dropOldest_11 ?_
          refine rr_alenH 1 rfl dX4_dropOldest_14 ?_
          refine rr_icmp_ge 38 dX4_dropOldest_15 (by decide) (by omega) (by omega) (fun c_5 => ?_) (fun c_5 => ?_)
          · skip
            exfalso; omega
          · skip
            refine rr_aload_n 0 dX4_dropOldest_18 rfl ?_
            refine rr_get fX4_15 0 rfl rfl dX4_dropOldest_19 ?_
            refine rr_iload_n 2 dX4_dropOldest_22 rfl ?_
            refine rr_iconst dX4_dropOldest_23 ?_
            refine rr_isub dX4_dropOldest_24 ?_
            refine rr_top (b := 4) (by decide) ?_
            refine rr_aload_n 0 dX4_dropOldest_25 rfl ?_
            refine rr_get fX4_15 0 rfl rfl dX4_dropOldest_26 ?_
            refine rr_iload_n 2 dX4_dropOldest_29 rfl ?_
            refine rr_aald (b := (u 5)) 1 5 rfl rfl (by omega) (by omega) rfl dX4_dropOldest_30 ?_
            refine rr_aast (ws2 := [(f, ob 4 [.ref ar, .int (zz 8)]), (ar, aH E 8 (va_up (va_up (va_up (va_up (va_up (fun i => some (u i)) 0 (some (u 1))) 1 (some (u 2))) 2 (some (u 3))) 3 (some (u 4))) 4 (some (u 5)))), ((u 0), hO (g 0)), ((u 1), hO (g 1)), ((u 2), hO (g 2)), ((u 3), hO (g 3)), ((u 4), hO (g 4)), ((u 5), hO (g 5)), ((u 6), hO (g 6)), ((u 7), hO (g 7))]) 1 4 7 rfl rfl rfl (by omega) (by omega) rfl dX4_dropOldest_31 ?_
            refine rr_iinc (lv2 := [(0, .ref f), (1, .ref (u 0)), (2, .int (zz 6))]) 2 dX4_dropOldest_32 rfl (by decide) rfl ?_
            refine rr_goto 9 dX4_dropOldest_35 (by decide) ?_
            refine rr_iload_n 2 dX4_dropOldest_9 rfl ?_
            refine rr_aload_n 0 dX4_dropOldest_10 rfl ?_
            refine rr_get fX4_15 0 rfl rfl dX4_dropOldest_11 ?_
            refine rr_alenH 1 rfl dX4_dropOldest_14 ?_
            refine rr_icmp_ge 38 dX4_dropOldest_15 (by decide) (by omega) (by omega) (fun c_6 => ?_) (fun c_6 => ?_)
            · skip
              exfalso; omega
            · skip
              refine rr_aload_n 0 dX4_dropOldest_18 rfl ?_
              refine rr_get fX4_15 0 rfl rfl dX4_dropOldest_19 ?_
              refine rr_iload_n 2 dX4_dropOldest_22 rfl ?_
              refine rr_iconst dX4_dropOldest_23 ?_
              refine rr_isub dX4_dropOldest_24 ?_
              refine rr_top (b := 5) (by decide) ?_
              refine rr_aload_n 0 dX4_dropOldest_25 rfl ?_
              refine rr_get fX4_15 0 rfl rfl dX4_dropOldest_26 ?_
              refine rr_iload_n 2 dX4_dropOldest_29 rfl ?_
              refine rr_aald (b := (u 6)) 1 6 rfl rfl (by omega) (by omega) rfl dX4_dropOldest_30 ?_
              refine rr_aast (ws2 := [(f, ob 4 [.ref ar, .int (zz 8)]), (ar, aH E 8 (va_up (va_up (va_up (va_up (va_up (va_up (fun i => some (u i)) 0 (some (u 1))) 1 (some (u 2))) 2 (some (u 3))) 3 (some (u 4))) 4 (some (u 5))) 5 (some (u 6)))), ((u 0), hO (g 0)), ((u 1), hO (g 1)), ((u 2), hO (g 2)), ((u 3), hO (g 3)), ((u 4), hO (g 4)), ((u 5), hO (g 5)), ((u 6), hO (g 6)), ((u 7), hO (g 7))]) 1 5 8 rfl rfl rfl (by omega) (by omega) rfl dX4_dropOldest_31 ?_
              refine rr_iinc (lv2 := [(0, .ref f), (1, .ref (u 0)), (2, .int (zz 7))]) 2 dX4_dropOldest_32 rfl (by decide) rfl ?_
              refine rr_goto 9 dX4_dropOldest_35 (by decide) ?_
              refine rr_iload_n 2 dX4_dropOldest_9 rfl ?_
              refine rr_aload_n 0 dX4_dropOldest_10 rfl ?_
              refine rr_get fX4_15 0 rfl rfl dX4_dropOldest_11 ?_
              refine rr_alenH 1 rfl dX4_dropOldest_14 ?_
              refine rr_icmp_ge 38 dX4_dropOldest_15 (by decide) (by omega) (by omega) (fun c_7 => ?_) (fun c_7 => ?_)
              · skip
                exfalso; omega
              · skip
                refine rr_aload_n 0 dX4_dropOldest_18 rfl ?_
                refine rr_get fX4_15 0 rfl rfl dX4_dropOldest_19 ?_
                refine rr_iload_n 2 dX4_dropOldest_22 rfl ?_
                refine rr_iconst dX4_dropOldest_23 ?_
                refine rr_isub dX4_dropOldest_24 ?_
                refine rr_top (b := 6) (by decide) ?_
                refine rr_aload_n 0 dX4_dropOldest_25 rfl ?_
                refine rr_get fX4_15 0 rfl rfl dX4_dropOldest_26 ?_
                refine rr_iload_n 2 dX4_dropOldest_29 rfl ?_
                refine rr_aald (b := (u 7)) 1 7 rfl rfl (by omega) (by omega) rfl dX4_dropOldest_30 ?_
                refine rr_aast (ws2 := [(f, ob 4 [.ref ar, .int (zz 8)]), (ar, aH E 8 (va_up (va_up (va_up (va_up (va_up (va_up (va_up (fun i => some (u i)) 0 (some (u 1))) 1 (some (u 2))) 2 (some (u 3))) 3 (some (u 4))) 4 (some (u 5))) 5 (some (u 6))) 6 (some (u 7)))), ((u 0), hO (g 0)), ((u 1), hO (g 1)), ((u 2), hO (g 2)), ((u 3), hO (g 3)), ((u 4), hO (g 4)), ((u 5), hO (g 5)), ((u 6), hO (g 6)), ((u 7), hO (g 7))]) 1 6 9 rfl rfl rfl (by omega) (by omega) rfl dX4_dropOldest_31 ?_
                refine rr_iinc (lv2 := [(0, .ref f), (1, .ref (u 0)), (2, .int (zz 8))]) 2 dX4_dropOldest_32 rfl (by decide) rfl ?_
                refine rr_goto 9 dX4_dropOldest_35 (by decide) ?_
                refine rr_iload_n 2 dX4_dropOldest_9 rfl ?_
                refine rr_aload_n 0 dX4_dropOldest_10 rfl ?_
                refine rr_get fX4_15 0 rfl rfl dX4_dropOldest_11 ?_
                refine rr_alenH 1 rfl dX4_dropOldest_14 ?_
                refine rr_icmp_ge 38 dX4_dropOldest_15 (by decide) (by omega) (by omega) (fun c_8 => ?_) (fun c_8 => ?_)
                · skip
                  refine rr_aload_n 0 dX4_dropOldest_38 rfl ?_
                  refine rr_get fX4_15 0 rfl rfl dX4_dropOldest_39 ?_
                  refine rr_aload_n 0 dX4_dropOldest_42 rfl ?_
                  refine rr_get fX4_15 0 rfl rfl dX4_dropOldest_43 ?_
                  refine rr_alenH 1 rfl dX4_dropOldest_46 ?_
                  refine rr_iconst dX4_dropOldest_47 ?_
                  refine rr_isub dX4_dropOldest_48 ?_
                  refine rr_top (b := 7) (by decide) ?_
                  refine rr_aload_n 1 dX4_dropOldest_49 rfl ?_
                  refine rr_aast (ws2 := [(f, ob 4 [.ref ar, .int (zz 8)]), (ar, aH E 8 (va_up (va_up (va_up (va_up (va_up (va_up (va_up (va_up (fun i => some (u i)) 0 (some (u 1))) 1 (some (u 2))) 2 (some (u 3))) 3 (some (u 4))) 4 (some (u 5))) 5 (some (u 6))) 6 (some (u 7))) 7 (some (u 0)))), ((u 0), hO (g 0)), ((u 1), hO (g 1)), ((u 2), hO (g 2)), ((u 3), hO (g 3)), ((u 4), hO (g 4)), ((u 5), hO (g 5)), ((u 6), hO (g 6)), ((u 7), hO (g 7))]) 1 7 2 rfl rfl rfl (by omega) (by omega) rfl dX4_dropOldest_50 ?_
                  refine rr_aload_n 0 dX4_dropOldest_51 rfl ?_
                  refine rr_aload_n 0 dX4_dropOldest_52 rfl ?_
                  refine rr_get fX4_15 0 rfl rfl dX4_dropOldest_53 ?_
                  refine rr_alenH 1 rfl dX4_dropOldest_56 ?_
                  refine rr_iconst dX4_dropOldest_57 ?_
                  refine rr_isub dX4_dropOldest_58 ?_
                  refine rr_top (b := 7) (by decide) ?_
                  refine rr_put (ws2 := [(f, ob 4 [.ref ar, .int (zz 7)]), (ar, aH E 8 (va_up (va_up (va_up (va_up (va_up (va_up (va_up (va_up (fun i => some (u i)) 0 (some (u 1))) 1 (some (u 2))) 2 (some (u 3))) 3 (some (u 4))) 4 (some (u 5))) 5 (some (u 6))) 6 (some (u 7))) 7 (some (u 0)))), ((u 0), hO (g 0)), ((u 1), hO (g 1)), ((u 2), hO (g 2)), ((u 3), hO (g 3)), ((u 4), hO (g 4)), ((u 5), hO (g 5)), ((u 6), hO (g 6)), ((u 7), hO (g 7))]) fX4_22 0 rfl rfl rfl (Nat.le_of_ble_eq_true rfl) rfl dX4_dropOldest_59 ?_
                  refine RR.eq (ws2 := [(f, ob 4 [.ref ar, .int (zz 7)]), (ar, aH E 8 (fun i => some (rot8 u i))), ((u 0), hO (g 0)), ((u 1), hO (g 1)), ((u 2), hO (g 2)), ((u 3), hO (g 3)), ((u 4), hO (g 4)), ((u 5), hO (g 5)), ((u 6), hO (g 6)), ((u 7), hO (g 7))]) rfl rfl rfl (by rw [rot8_fn]) ?_
                  refine RR.ws (ws2 := shW8 E f ar (rot8 u) (rot8 g) 7) [0, 1, 3, 4, 5, 6, 7, 8, 9, 2] rfl rfl ?_
                  exact rr_ret dX4_dropOldest_62 rfl ⟨rfl, rfl⟩
                · skip
                  exfalso; omega
set_option maxRecDepth 100000 in
set_option maxHeartbeats 4000000 in
theorem c_put8 (E : Ev) (d : Nat) (f ar a : Nat) (u : Nat → Nat) (g : Nat → Nat → Int) (h : Nat → Int) (sz : Nat) (hs : sz ≤ 8) : SP E mX4_put (d + 1) 0 0 [.ref f, .ref a] [(f, ob 4 [.ref ar, .int (zz ↑sz)]), (ar, aH E 8 (fun i => some (u i))), ((u 0), hO (g 0)), ((u 1), hO (g 1)), ((u 2), hO (g 2)), ((u 3), hO (g 3)), ((u 4), hO (g 4)), ((u 5), hO (g 5)), ((u 6), hO (g 6)), ((u 7), hO (g 7)), (a, hO h)] (fun v w => v = none ∧ ∃ u2 : Nat → Nat, w = shW8 E f ar u2 (putG g sz h) (putN sz) ++ [(a, hO h)]) := by
  show RR E mX4_put (d + 1) 0 0 0 [(0, .ref f), (1, .ref a)] [] [(f, ob 4 [.ref ar, .int (zz ↑sz)]), (ar, aH E 8 (fun i => some (u i))), ((u 0), hO (g 0)), ((u 1), hO (g 1)), ((u 2), hO (g 2)), ((u 3), hO (g 3)), ((u 4), hO (g 4)), ((u 5), hO (g 5)), ((u 6), hO (g 6)), ((u 7), hO (g 7)), (a, hO h)] (fun v w => v = none ∧ ∃ u2 : Nat → Nat, w = shW8 E f ar u2 (putG g sz h) (putN sz) ++ [(a, hO h)])
  rcases (show sz = 0 ∨ sz = 1 ∨ sz = 2 ∨ sz = 3 ∨ sz = 4 ∨ sz = 5 ∨ sz = 6 ∨ sz = 7 ∨ sz = 8 by omega) with rfl | rfl | rfl | rfl | rfl | rfl | rfl | rfl | rfl
  · skip
    refine RR.eq (ws2 := [(f, ob 4 [.ref ar, .int (zz 0)]), (ar, aH E 8 (fun i => some (u i))), ((u 0), hO (g 0)), ((u 1), hO (g 1)), ((u 2), hO (g 2)), ((u 3), hO (g 3)), ((u 4), hO (g 4)), ((u 5), hO (g 5)), ((u 6), hO (g 6)), ((u 7), hO (g 7)), (a, hO h)]) rfl rfl rfl rfl ?_
    refine rr_aload_n 0 dX4_put_0 rfl ?_
    refine rr_callFi (ws2 := [(f, ob 4 [.ref ar, .int (zz 0)]), (ar, aH E 8 (fun i => some (u i))), ((u 0), hO (g 0)), ((u 1), hO (g 1)), ((u 2), hO (g 2)), ((u 3), hO (g 3)), ((u 4), hO (g 4)), ((u 5), hO (g 5)), ((u 6), hO (g 6)), ((u 7), hO (g 7)), (a, hO h)]) (wr := [((u 0), hO (g 0)), ((u 1), hO (g 1)), ((u 2), hO (g 2)), ((u 3), hO (g 3)), ((u 4), hO (g 4)), ((u 5), hO (g 5)), ((u 6), hO (g 6)), ((u 7), hO (g 7)), (a, hO h)]) (call_V (q0 := 0) kX4_26 (c_isFull8 E (d + 0) f ar u 0 (by omega)) rfl rfl rfl rfl (by omega) (by decide) (Nat.le_of_ble_eq_true rfl) (Nat.le_of_ble_eq_true rfl) dX4_put_1) [0, 1] [2, 3, 4, 5, 6, 7, 8, 9, 10] [9, 10, 0, 1, 2, 3, 4, 5, 6, 7, 8] rfl rfl rfl rfl rfl rfl rfl ?_
    refine rr_if_eqD 11 dX4_put_4 (by decide) (fun c_1 => ?_) (fun c_1 => ?_)
    · skip
      refine rr_aload_n 0 dX4_put_11 rfl ?_
      refine rr_get fX4_15 0 rfl rfl dX4_put_12 ?_
      refine rr_aload_n 0 dX4_put_15 rfl ?_
      refine rr_get fX4_22 0 rfl rfl dX4_put_16 ?_
      refine rr_aald (b := (u 0)) 1 0 rfl rfl (by omega) (by omega) rfl dX4_put_19 ?_
      refine rr_aload_n 1 dX4_put_20 rfl ?_
      refine rr_callFv (ws2 := [(f, ob 4 [.ref ar, .int (zz 0)]), (ar, aH E 8 (fun i => some (u i))), ((u 0), hO h), ((u 1), hO (g 1)), ((u 2), hO (g 2)), ((u 3), hO (g 3)), ((u 4), hO (g 4)), ((u 5), hO (g 5)), ((u 6), hO (g 6)), ((u 7), hO (g 7)), (a, hO h)]) (wr := [(f, ob 4 [.ref ar, .int (zz 0)]), (ar, aH E 8 (fun i => some (u i))), ((u 1), hO (g 1)), ((u 2), hO (g 2)), ((u 3), hO (g 3)), ((u 4), hO (g 4)), ((u 5), hO (g 5)), ((u 6), hO (g 6)), ((u 7), hO (g 7))]) (call_V (q0 := 0) kX4_33 (c_copy E (d + 0) (u 0) a (g 0) h) rfl rfl rfl rfl (by omega) (by decide) (Nat.le_of_ble_eq_true rfl) (Nat.le_of_ble_eq_true rfl) dX4_put_21) [2, 10] [0, 1, 3, 4, 5, 6, 7, 8, 9] [0, 1, 9, 2, 3, 4, 5, 6, 7, 8, 10] rfl rfl rfl rfl rfl rfl rfl ?_
      refine rr_aload_n 0 dX4_put_24 rfl ?_
      refine rr_dup dX4_put_25 rfl ?_
      refine rr_get fX4_22 0 rfl rfl dX4_put_26 ?_
      refine rr_iconst dX4_put_29 ?_
      refine rr_iadd dX4_put_30 ?_
      refine rr_top (b := 1) (by decide) ?_
      refine rr_put (ws2 := [(f, ob 4 [.ref ar, .int (zz 1)]), (ar, aH E 8 (fun i => some (u i))), ((u 0), hO h), ((u 1), hO (g 1)), ((u 2), hO (g 2)), ((u 3), hO (g 3)), ((u 4), hO (g 4)), ((u 5), hO (g 5)), ((u 6), hO (g 6)), ((u 7), hO (g 7)), (a, hO h)]) fX4_22 0 rfl rfl rfl (Nat.le_of_ble_eq_true rfl) rfl dX4_put_31 ?_
      exact rr_ret dX4_put_34 rfl ⟨rfl, u, rfl⟩
    · skip
      exfalso; omega
  · skip
    refine RR.eq (ws2 := [(f, ob 4 [.ref ar, .int (zz 1)]), (ar, aH E 8 (fun i => some (u i))), ((u 0), hO (g 0)), ((u 1), hO (g 1)), ((u 2), hO (g 2)), ((u 3), hO (g 3)), ((u 4), hO (g 4)), ((u 5), hO (g 5)), ((u 6), hO (g 6)), ((u 7), hO (g 7)), (a, hO h)]) rfl rfl rfl rfl ?_
    refine rr_aload_n 0 dX4_put_0 rfl ?_
    refine rr_callFi (ws2 := [(f, ob 4 [.ref ar, .int (zz 1)]), (ar, aH E 8 (fun i => some (u i))), ((u 0), hO (g 0)), ((u 1), hO (g 1)), ((u 2), hO (g 2)), ((u 3), hO (g 3)), ((u 4), hO (g 4)), ((u 5), hO (g 5)), ((u 6), hO (g 6)), ((u 7), hO (g 7)), (a, hO h)]) (wr := [((u 0), hO (g 0)), ((u 1), hO (g 1)), ((u 2), hO (g 2)), ((u 3), hO (g 3)), ((u 4), hO (g 4)), ((u 5), hO (g 5)), ((u 6), hO (g 6)), ((u 7), hO (g 7)), (a, hO h)]) (call_V (q0 := 0) kX4_26 (c_isFull8 E (d + 0) f ar u 1 (by omega)) rfl rfl rfl rfl (by omega) (by decide) (Nat.le_of_ble_eq_true rfl) (Nat.le_of_ble_eq_true rfl) dX4_put_1) [0, 1] [2, 3, 4, 5, 6, 7, 8, 9, 10] [9, 10, 0, 1, 2, 3, 4, 5, 6, 7, 8] rfl rfl rfl rfl rfl rfl rfl ?_
    refine rr_if_eqD 11 dX4_put_4 (by decide) (fun c_2 => ?_) (fun c_2 => ?_)
    · skip
      refine rr_aload_n 0 dX4_put_11 rfl ?_
      refine rr_get fX4_15 0 rfl rfl dX4_put_12 ?_
      refine rr_aload_n 0 dX4_put_15 rfl ?_
      refine rr_get fX4_22 0 rfl rfl dX4_put_16 ?_
      refine rr_aald (b := (u 1)) 1 1 rfl rfl (by omega) (by omega) rfl dX4_put_19 ?_
      refine rr_aload_n 1 dX4_put_20 rfl ?_
      refine rr_callFv (ws2 := [(f, ob 4 [.ref ar, .int (zz 1)]), (ar, aH E 8 (fun i => some (u i))), ((u 0), hO (g 0)), ((u 1), hO h), ((u 2), hO (g 2)), ((u 3), hO (g 3)), ((u 4), hO (g 4)), ((u 5), hO (g 5)), ((u 6), hO (g 6)), ((u 7), hO (g 7)), (a, hO h)]) (wr := [(f, ob 4 [.ref ar, .int (zz 1)]), (ar, aH E 8 (fun i => some (u i))), ((u 0), hO (g 0)), ((u 2), hO (g 2)), ((u 3), hO (g 3)), ((u 4), hO (g 4)), ((u 5), hO (g 5)), ((u 6), hO (g 6)), ((u 7), hO (g 7))]) (call_V (q0 := 0) kX4_33 (c_copy E (d + 0) (u 1) a (g 1) h) rfl rfl rfl rfl (by omega) (by decide) (Nat.le_of_ble_eq_true rfl) (Nat.le_of_ble_eq_true rfl) dX4_put_21) [3, 10] [0, 1, 2, 4, 5, 6, 7, 8, 9] [0, 1, 2, 9, 3, 4, 5, 6, 7, 8, 10] rfl rfl rfl rfl rfl rfl rfl ?_
      refine rr_aload_n 0 dX4_put_24 rfl ?_
      refine rr_dup dX4_put_25 rfl ?_
      refine rr_get fX4_22 0 rfl rfl dX4_put_26 ?_
      refine rr_iconst dX4_put_29 ?_
      refine rr_iadd dX4_put_30 ?_
      refine rr_top (b := 2) (by decide) ?_
      refine rr_put (ws2 := [(f, ob 4 [.ref ar, .int (zz 2)]), (ar, aH E 8 (fun i => some (u i))), ((u 0), hO (g 0)), ((u 1), hO h), ((u 2), hO (g 2)), ((u 3), hO (g 3)), ((u 4), hO (g 4)), ((u 5), hO (g 5)), ((u 6), hO (g 6)), ((u 7), hO (g 7)), (a, hO h)]) fX4_22 0 rfl rfl rfl (Nat.le_of_ble_eq_true rfl) rfl dX4_put_31 ?_
      exact rr_ret dX4_put_34 rfl ⟨rfl, u, rfl⟩
    · skip
      exfalso; omega
  · skip
    refine RR.eq (ws2 := [(f, ob 4 [.ref ar, .int (zz 2)]), (ar, aH E 8 (fun i => some (u i))), ((u 0), hO (g 0)), ((u 1), hO (g 1)), ((u 2), hO (g 2)), ((u 3), hO (g 3)), ((u 4), hO (g 4)), ((u 5), hO (g 5)), ((u 6), hO (g 6)), ((u 7), hO (g 7)), (a, hO h)]) rfl rfl rfl rfl ?_
    refine rr_aload_n 0 dX4_put_0 rfl ?_
    refine rr_callFi (ws2 := [(f, ob 4 [.ref ar, .int (zz 2)]), (ar, aH E 8 (fun i => some (u i))), ((u 0), hO (g 0)), ((u 1), hO (g 1)), ((u 2), hO (g 2)), ((u 3), hO (g 3)), ((u 4), hO (g 4)), ((u 5), hO (g 5)), ((u 6), hO (g 6)), ((u 7), hO (g 7)), (a, hO h)]) (wr := [((u 0), hO (g 0)), ((u 1), hO (g 1)), ((u 2), hO (g 2)), ((u 3), hO (g 3)), ((u 4), hO (g 4)), ((u 5), hO (g 5)), ((u 6), hO (g 6)), ((u 7), hO (g 7)), (a, hO h)]) (call_V (q0 := 0) kX4_26 (c_isFull8 E (d + 0) f ar u 2 (by omega)) rfl rfl rfl rfl (by omega) (by decide) (Nat.le_of_ble_eq_true rfl) (Nat.le_of_ble_eq_true rfl) dX4_put_1) [0, 1] [2, 3, 4, 5, 6, 7, 8, 9, 10] [9, 10, 0, 1, 2, 3, 4, 5, 6, 7, 8] rfl rfl rfl rfl rfl rfl rfl ?_
    refine rr_if_eqD 11 dX4_put_4 (by decide) (fun c_3 => ?_) (fun c_3 => ?_)
    · skip
      refine rr_aload_n 0 dX4_put_11 rfl ?_
      refine rr_get fX4_15 0 rfl rfl dX4_put_12 ?_
      refine rr_aload_n 0 dX4_put_15 rfl ?_
      refine rr_get fX4_22 0 rfl rfl dX4_put_16 ?_
      refine rr_aald (b := (u 2)) 1 2 rfl rfl (by omega) (by omega) rfl dX4_put_19 ?_
      refine rr_aload_n 1 dX4_put_20 rfl ?_
      refine rr_callFv (ws2 := [(f, ob 4 [.ref ar, .int (zz 2)]), (ar, aH E 8 (fun i => some (u i))), ((u 0), hO (g 0)), ((u 1), hO (g 1)), ((u 2), hO h), ((u 3), hO (g 3)), ((u 4), hO (g 4)), ((u 5), hO (g 5)), ((u 6), hO (g 6)), ((u 7), hO (g 7)), (a, hO h)]) (wr := [(f, ob 4 [.ref ar, .int (zz 2)]), (ar, aH E 8 (fun i => some (u i))), ((u 0), hO (g 0)), ((u 1), hO (g 1)), ((u 3), hO (g 3)), ((u 4), hO (g 4)), ((u 5), hO (g 5)), ((u 6), hO (g 6)), ((u 7), hO (g 7))]) (call_V (q0 := 0) kX4_33 (c_copy E (d + 0) (u 2) a (g 2) h) rfl rfl rfl rfl (by omega) (by decide) (Nat.le_of_ble_eq_true rfl) (Nat.le_of_ble_eq_true rfl) dX4_put_21) [4, 10] [0, 1, 2, 3, 5, 6, 7, 8, 9] [0, 1, 2, 3, 9, 4, 5, 6, 7, 8, 10] rfl rfl rfl rfl rfl rfl rfl ?_
      refine rr_aload_n 0 dX4_put_24 rfl ?_
      refine rr_dup dX4_put_25 rfl ?_
      refine rr_get fX4_22 0 rfl rfl dX4_put_26 ?_
      refine rr_iconst dX4_put_29 ?_
      refine rr_iadd dX4_put_30 ?_
      refine rr_top (b := 3) (by decide) ?_
      refine rr_put (ws2 := [(f, ob 4 [.ref ar, .int (zz 3)]), (ar, aH E 8 (fun i => some (u i))), ((u 0), hO (g 0)), ((u 1), hO (g 1)), ((u 2), hO h), ((u 3), hO (g 3)), ((u 4), hO (g 4)), ((u 5), hO (g 5)), ((u 6), hO (g 6)), ((u 7), hO (g 7)), (a, hO h)]) fX4_22 0 rfl rfl rfl (Nat.le_of_ble_eq_true rfl) rfl dX4_put_31 ?_
      exact rr_ret dX4_put_34 rfl ⟨rfl, u, rfl⟩
    · skip
      exfalso; omega
  · skip
    refine RR.eq (ws2 := [(f, ob 4 [.ref ar, .int (zz 3)]), (ar, aH E 8 (fun i => some (u i))), ((u 0), hO (g 0)), ((u 1), hO (g 1)), ((u 2), hO (g 2)), ((u 3), hO (g 3)), ((u 4), hO (g 4)), ((u 5), hO (g 5)), ((u 6), hO (g 6)), ((u 7), hO (g 7)), (a, hO h)]) rfl rfl rfl rfl ?_
    refine rr_aload_n 0 dX4_put_0 rfl ?_
    refine rr_callFi (ws2 := [(f, ob 4 [.ref ar, .int (zz 3)]), (ar, aH E 8 (fun i => some (u i))), ((u 0), hO (g 0)), ((u 1), hO (g 1)), ((u 2), hO (g 2)), ((u 3), hO (g 3)), ((u 4), hO (g 4)), ((u 5), hO (g 5)), ((u 6), hO (g 6)), ((u 7), hO (g 7)), (a, hO h)]) (wr := [((u 0), hO (g 0)), ((u 1), hO (g 1)), ((u 2), hO (g 2)), ((u 3), hO (g 3)), ((u 4), hO (g 4)), ((u 5), hO (g 5)), ((u 6), hO (g 6)), ((u 7), hO (g 7)), (a, hO h)]) (call_V (q0 := 0) kX4_26 (c_isFull8 E (d + 0) f ar u 3 (by omega)) rfl rfl rfl rfl (by omega) (by decide) (Nat.le_of_ble_eq_true rfl) (Nat.le_of_ble_eq_true rfl) dX4_put_1) [0, 1] [2, 3, 4, 5, 6, 7, 8, 9, 10] [9, 10, 0, 1, 2, 3, 4, 5, 6, 7, 8] rfl rfl rfl rfl rfl rfl rfl ?_
    refine rr_if_eqD 11 dX4_put_4 (by decide) (fun c_4 => ?_) (fun c_4 => ?_)
    · skip
      refine rr_aload_n 0 dX4_put_11 rfl ?_
      refine rr_get fX4_15 0 rfl rfl dX4_put_12 ?_
      refine rr_aload_n 0 dX4_put_15 rfl ?_
      refine rr_get fX4_22 0 rfl rfl dX4_put_16 ?_
      refine rr_aald (b := (u 3)) 1 3 rfl rfl (by omega) (by omega) rfl dX4_put_19 ?_
      refine rr_aload_n 1 dX4_put_20 rfl ?_
      refine rr_callFv (ws2 := [(f, ob 4 [.ref ar, .int (zz 3)]), (ar, aH E 8 (fun i => some (u i))), ((u 0), hO (g 0)), ((u 1), hO (g 1)), ((u 2), hO (g 2)), ((u 3), hO h), ((u 4), hO (g 4)), ((u 5), hO (g 5)), ((u 6), hO (g 6)), ((u 7), hO (g 7)), (a, hO h)]) (wr := [(f, ob 4 [.ref ar, .int (zz 3)]), (ar, aH E 8 (fun i => some (u i))), ((u 0), hO (g 0)), ((u 1), hO (g 1)), ((u 2), hO (g 2)), ((u 4), hO (g 4)), ((u 5), hO (g 5)), ((u 6), hO (g 6)), ((u 7), hO (g 7))]) (call_V (q0 := 0) kX4_33 (c_copy E (d + 0) (u 3) a (g 3) h) rfl rfl rfl rfl (by omega) (by decide) (Nat.le_of_ble_eq_true rfl) (Nat.le_of_ble_eq_true rfl) dX4_put_21) [5, 10] [0, 1, 2, 3, 4, 6, 7, 8, 9] [0, 1, 2, 3, 4, 9, 5, 6, 7, 8, 10] rfl rfl rfl rfl rfl rfl rfl ?_
      refine rr_aload_n 0 dX4_put_24 rfl ?_
      refine rr_dup dX4_put_25 rfl ?_
      refine rr_get fX4_22 0 rfl rfl dX4_put_26 ?_
      refine rr_iconst dX4_put_29 ?_
      refine rr_iadd dX4_put_30 ?_
      refine rr_top (b := 4) (by decide) ?_
      refine rr_put (ws2 := [(f, ob 4 [.ref ar, .int (zz 4)]), (ar, aH E 8 (fun i => some (u i))), ((u 0), hO (g 0)), ((u 1), hO (g 1)), ((u 2), hO (g 2)), ((u 3), hO h), ((u 4), hO (g 4)), ((u 5), hO (g 5)), ((u 6), hO (g 6)), ((u 7), hO (g 7)), (a, hO h)]) fX4_22 0 rfl rfl rfl (Nat.le_of_ble_eq_true rfl) rfl dX4_put_31 ?_
      exact rr_ret dX4_put_34 rfl ⟨rfl, u, rfl⟩
    · skip
      exfalso; omega
  · skip
    refine RR.eq (ws2 := [(f, ob 4 [.ref ar, .int (zz 4)]), (ar, aH E 8 (fun i => some (u i))), ((u 0), hO (g 0)), ((u 1), hO (g 1)), ((u 2), hO (g 2)), ((u 3), hO (g 3)), ((u 4), hO (g 4)), ((u 5), hO (g 5)), ((u 6), hO (g 6)), ((u 7), hO (g 7)), (a, hO h)]) rfl rfl rfl rfl ?_
    refine rr_aload_n 0 dX4_put_0 rfl ?_
    refine rr_callFi (ws2 := [(f, ob 4 [.ref ar, .int (zz 4)]), (ar, aH E 8 (fun i => some (u i))), ((u 0), hO (g 0)), ((u 1), hO (g 1)), ((u 2), hO (g 2)), ((u 3), hO (g 3)), ((u 4), hO (g 4)), ((u 5), hO (g 5)), ((u 6), hO (g 6)), ((u 7), hO (g 7)), (a, hO h)]) (wr := [((u 0), hO (g 0)), ((u 1), hO (g 1)), ((u 2), hO (g 2)), ((u 3), hO (g 3)), ((u 4), hO (g 4)), ((u 5), hO (g 5)), ((u 6), hO (g 6)), ((u 7), hO (g 7)), (a, hO h)]) (call_V (q0 := 0) kX4_26 (c_isFull8 E (d + 0) f ar u 4 (by omega)) rfl rfl rfl rfl (by omega) (by decide) (Nat.le_of_ble_eq_true rfl) (Nat.le_of_ble_eq_true rfl) dX4_put_1) [0, 1] [2, 3, 4, 5, 6, 7, 8, 9, 10] [9, 10, 0, 1, 2, 3, 4, 5, 6, 7, 8] rfl rfl rfl rfl rfl rfl rfl ?_
    refine rr_if_eqD 11 dX4_put_4 (by decide) (fun c_5 => ?_) (fun c_5 => ?_)
    · skip
      refine rr_aload_n 0 dX4_put_11 rfl ?_
      refine rr_get fX4_15 0 rfl rfl dX4_put_12 ?_
      refine rr_aload_n 0 dX4_put_15 rfl ?_
      refine rr_get fX4_22 0 rfl rfl dX4_put_16 ?_
      refine rr_aald (b := (u 4)) 1 4 rfl rfl (by omega) (by omega) rfl dX4_put_19 ?_
      refine rr_aload_n 1 dX4_put_20 rfl ?_
      refine rr_callFv (ws2 := [(f, ob 4 [.ref ar, .int (zz 4)]), (ar, aH E 8 (fun i => some (u i))), ((u 0), hO (g 0)), ((u 1), hO (g 1)), ((u 2), hO (g 2)), ((u 3), hO (g 3)), ((u 4), hO h), ((u 5), hO (g 5)), ((u 6), hO (g 6)), ((u 7), hO (g 7)), (a, hO h)]) (wr := [(f, ob 4 [.ref ar, .int (zz 4)]), (ar, aH E 8 (fun i => some (u i))), ((u 0), hO (g 0)), ((u 1), hO (g 1)), ((u 2), hO (g 2)), ((u 3), hO (g 3)), ((u 5), hO (g 5)), ((u 6), hO (g 6)), ((u 7), hO (g 7))]) (call_V (q0 := 0) kX4_33 (c_copy E (d + 0) (u 4) a (g 4) h) rfl rfl rfl rfl (by omega) (by decide) (Nat.le_of_ble_eq_true rfl) (Nat.le_of_ble_eq_true rfl) dX4_put_21) [6, 10] [0, 1, 2, 3, 4, 5, 7, 8, 9] [0, 1, 2, 3, 4, 5, 9, 6, 7, 8, 10] rfl rfl rfl rfl rfl rfl rfl ?_
      refine rr_aload_n 0 dX4_put_24 rfl ?_
      refine rr_dup dX4_put_25 rfl ?_
      refine rr_get fX4_22 0 rfl rfl dX4_put_26 ?_
      refine rr_iconst dX4_put_29 ?_
      refine rr_iadd dX4_put_30 ?_
      refine rr_top (b := 5) (by decide) ?_
      refine rr_put (ws2 := [(f, ob 4 [.ref ar, .int (zz 5)]), (ar, aH E 8 (fun i => some (u i))), ((u 0), hO (g 0)), ((u 1), hO (g 1)), ((u 2), hO (g 2)), ((u 3), hO (g 3)), ((u 4), hO h), ((u 5), hO (g 5)), ((u 6), hO (g 6)), ((u 7), hO (g 7)), (a, hO h)]) fX4_22 0 rfl rfl rfl (Nat.le_of_ble_eq_true rfl) rfl dX4_put_31 ?_
      exact rr_ret dX4_put_34 rfl ⟨rfl, u, rfl⟩
    · skip
      exfalso; omega
  · skip
    refine RR.eq (ws2 := [(f, ob 4 [.ref ar, .int (zz 5)]), (ar, aH E 8 (fun i => some (u i))), ((u 0), hO (g 0)), ((u 1), hO (g 1)), ((u 2), hO (g 2)), ((u 3), hO (g 3)), ((u 4), hO (g 4)), ((u 5), hO (g 5)), ((u 6), hO (g 6)), ((u 7), hO (g 7)), (a, hO h)]) rfl rfl rfl rfl ?_
    refine rr_aload_n 0 dX4_put_0 rfl ?_
    refine rr_callFi (ws2 := [(f, ob 4 [.ref ar, .int (zz 5)]), (ar, aH E 8 (fun i => some (u i))), ((u 0), hO (g 0)), ((u 1), hO (g 1)), ((u 2), hO (g 2)), ((u 3), hO (g 3)), ((u 4), hO (g 4)), ((u 5), hO (g 5)), ((u 6), hO (g 6)), ((u 7), hO (g 7)), (a, hO h)]) (wr := [((u 0), hO (g 0)), ((u 1), hO (g 1)), ((u 2), hO (g 2)), ((u 3), hO (g 3)), ((u 4), hO (g 4)), ((u 5), hO (g 5)), ((u 6), hO (g 6)), ((u 7), hO (g 7)), (a, hO h)]) (call_V (q0 := 0) kX4_26 (c_isFull8 E (d + 0) f ar u 5 (by omega)) rfl rfl rfl rfl (by omega) (by decide) (Nat.le_of_ble_eq_true rfl) (Nat.le_of_ble_eq_true rfl) dX4_put_1) [0, 1] [2, 3, 4, 5, 6, 7, 8, 9, 10] [9, 10, 0, 1, 2, 3, 4, 5, 6, 7, 8] rfl rfl rfl rfl rfl rfl rfl ?_
    refine rr_if_eqD 11 dX4_put_4 (by decide) (fun c_6 => ?_) (fun c_6 => ?_)
    · skip
      refine rr_aload_n 0 dX4_put_11 rfl ?_
      refine rr_get fX4_15 0 rfl rfl dX4_put_12 ?_
      refine rr_aload_n 0 dX4_put_15 rfl ?_
      refine rr_get fX4_22 0 rfl rfl dX4_put_16 ?_
      refine rr_aald (b := (u 5)) 1 5 rfl rfl (by omega) (by omega) rfl dX4_put_19 ?_
      refine rr_aload_n 1 dX4_put_20 rfl ?_
      refine rr_callFv (ws2 := [(f, ob 4 [.ref ar, .int (zz 5)]), (ar, aH E 8 (fun i => some (u i))), ((u 0), hO (g 0)), ((u 1), hO (g 1)), ((u 2), hO (g 2)), ((u 3), hO (g 3)), ((u 4), hO (g 4)), ((u 5), hO h), ((u 6), hO (g 6)), ((u 7), hO (g 7)), (a, hO h)]) (wr := [(f, ob 4 [.ref ar, .int (zz 5)]), (ar, aH E 8 (fun i => some (u i))), ((u 0), hO (g 0)), ((u 1), hO (g 1)), ((u 2), hO (g 2)), ((u 3), hO (g 3)), ((u 4), hO (g 4)), ((u 6), hO (g 6)), ((u 7), hO (g 7))]) (call_V (q0 := 0) kX4_33 (c_copy E (d + 0) (u 5) a (g 5) h) rfl rfl rfl rfl (by omega) (by decide) (Nat.le_of_ble_eq_true rfl) (Nat.le_of_ble_eq_true rfl) dX4_put_21) [7, 10] [0, 1, 2, 3, 4, 5, 6, 8, 9] [0, 1, 2, 3, 4, 5, 6, 9, 7, 8, 10] rfl rfl rfl rfl rfl rfl rfl ?_
      refine rr_aload_n 0 dX4_put_24 rfl ?_
      refine rr_dup dX4_put_25 rfl ?_
      refine rr_get fX4_22 0 rfl rfl dX4_put_26 ?_
      refine rr_iconst dX4_put_29 ?_
      refine rr_iadd dX4_put_30 ?_
      refine rr_top (b := 6) (by decide) ?_
      refine rr_put (ws2 := [(f, ob 4 [.ref ar, .int (zz 6)]), (ar, aH E 8 (fun i => some (u i))), ((u 0), hO (g 0)), ((u 1), hO (g 1)), ((u 2), hO (g 2)), ((u 3), hO (g 3)), ((u 4), hO (g 4)), ((u 5), hO h), ((u 6), hO (g 6)), ((u 7), hO (g 7)), (a, hO h)]) fX4_22 0 rfl rfl rfl (Nat.le_of_ble_eq_true rfl) rfl dX4_put_31 ?_
      exact rr_ret dX4_put_34 rfl ⟨rfl, u, rfl⟩
    · skip
      exfalso; omega
  · skip
    refine RR.eq (ws2 := [(f, ob 4 [.ref ar, .int (zz 6)]), (ar, aH E 8 (fun i => some (u i))), ((u 0), hO (g 0)), ((u 1), hO (g 1)), ((u 2), hO (g 2)), ((u 3), hO (g 3)), ((u 4), hO (g 4)), ((u 5), hO (g 5)), ((u 6), hO (g 6)), ((u 7), hO (g 7)), (a, hO h)]) rfl rfl rfl rfl ?_
    refine rr_aload_n 0 dX4_put_0 rfl ?_
    refine rr_callFi (ws2 := [(f, ob 4 [.ref ar, .int (zz 6)]), (ar, aH E 8 (fun i => some (u i))), ((u 0), hO (g 0)), ((u 1), hO (g 1)), ((u 2), hO (g 2)), ((u 3), hO (g 3)), ((u 4), hO (g 4)), ((u 5), hO (g 5)), ((u 6), hO (g 6)), ((u 7), hO (g 7)), (a, hO h)]) (wr := [((u 0), hO (g 0)), ((u 1), hO (g 1)), ((u 2), hO (g 2)), ((u 3), hO (g 3)), ((u 4), hO (g 4)), ((u 5), hO (g 5)), ((u 6), hO (g 6)), ((u 7), hO (g 7)), (a, hO h)]) (call_V (q0 := 0) kX4_26 (c_isFull8 E (d + 0) f ar u 6 (by omega)) rfl rfl rfl rfl (by omega) (by decide) (Nat.le_of_ble_eq_true rfl) (Nat.le_of_ble_eq_true rfl) dX4_put_1) [0, 1] [2, 3, 4, 5, 6, 7, 8, 9, 10] [9, 10, 0, 1, 2, 3, 4, 5, 6, 7, 8] rfl rfl rfl rfl rfl rfl rfl ?_
    refine rr_if_eqD 11 dX4_put_4 (by decide) (fun c_7 => ?_) (fun c_7 => ?_)
    · skip
      refine rr_aload_n 0 dX4_put_11 rfl ?_
      refine rr_get fX4_15 0 rfl rfl dX4_put_12 ?_
      refine rr_aload_n 0 dX4_put_15 rfl ?_
      refine rr_get fX4_22 0 rfl rfl dX4_put_16 ?_
      refine rr_aald (b := (u 6)) 1 6 rfl rfl (by omega) (by omega) rfl dX4_put_19 ?_
      refine rr_aload_n 1 dX4_put_20 rfl ?_
      refine rr_callFv (ws2 := [(f, ob 4 [.ref ar, .int (zz 6)]), (ar, aH E 8 (fun i => some (u i))), ((u 0), hO (g 0)), ((u 1), hO (g 1)), ((u 2), hO (g 2)), ((u 3), hO (g 3)), ((u 4), hO (g 4)), ((u 5), hO (g 5)), ((u 6), hO h), ((u 7), hO (g 7)), (a, hO h)]) (wr := [(f, ob 4 [.ref ar, .int (zz 6)]), (ar, aH E 8 (fun i => some (u i))), ((u 0), hO (g 0)), ((u 1), hO (g 1)), ((u 2), hO (g 2)), ((u 3), hO (g 3)), ((u 4), hO (g 4)), ((u 5), hO (g 5)), ((u 7), hO (g 7))]) (call_V (q0 := 0) kX4_33 (c_copy E (d + 0) (u 6) a (g 6) h) rfl rfl rfl rfl (by omega) (by decide) (Nat.le_of_ble_eq_true rfl) (Nat.le_of_ble_eq_true rfl) dX4_put_21) [8, 10] [0, 1, 2, 3, 4, 5, 6, 7, 9] [0, 1, 2, 3, 4, 5, 6, 7, 9, 8, 10] rfl rfl rfl rfl rfl rfl rfl ?_
      refine rr_aload_n 0 dX4_put_24 rfl ?_
      refine rr_dup dX4_put_25 rfl ?_
      refine rr_get fX4_22 0 rfl rfl dX4_put_26 ?_
      refine rr_iconst dX4_put_29 ?_
      refine rr_iadd dX4_put_30 ?_
      refine rr_top (b := 7) (by decide) ?_
      refine rr_put (ws2 := [(f, ob 4 [.ref ar, .int (zz 7)]), (ar, aH E 8 (fun i => some (u i))), ((u 0), hO (g 0)), ((u 1), hO (g 1)), ((u 2), hO (g 2)), ((u 3), hO (g 3)), ((u 4), hO (g 4)), ((u 5), hO (g 5)), ((u 6), hO h), ((u 7), hO (g 7)), (a, hO h)]) fX4_22 0 rfl rfl rfl (Nat.le_of_ble_eq_true rfl) rfl dX4_put_31 ?_
      exact rr_ret dX4_put_34 rfl ⟨rfl, u, rfl⟩
    · skip
      exfalso; omega
  · skip
    refine RR.eq (ws2 := [(f, ob 4 [.ref ar, .int (zz 7)]), (ar, aH E 8 (fun i => some (u i))), ((u 0), hO (g 0)), ((u 1), hO (g 1)), ((u 2), hO (g 2)), ((u 3), hO (g 3)), ((u 4), hO (g 4)), ((u 5), hO (g 5)), ((u 6), hO (g 6)), ((u 7), hO (g 7)), (a, hO h)]) rfl rfl rfl rfl ?_
    refine rr_aload_n 0 dX4_put_0 rfl ?_
    refine rr_callFi (ws2 := [(f, ob 4 [.ref ar, .int (zz 7)]), (ar, aH E 8 (fun i => some (u i))), ((u 0), hO (g 0)), ((u 1), hO (g 1)), ((u 2), hO (g 2)), ((u 3), hO (g 3)), ((u 4), hO (g 4)), ((u 5), hO (g 5)), ((u 6), hO (g 6)), ((u 7), hO (g 7)), (a, hO h)]) (wr := [((u 0), hO (g 0)), ((u 1), hO (g 1)), ((u 2), hO (g 2)), ((u 3), hO (g 3)), ((u 4), hO (g 4)), ((u 5), hO (g 5)), ((u 6), hO (g 6)), ((u 7), hO (g 7)), (a, hO h)]) (call_V (q0 := 0) kX4_26 (c_isFull8 E (d + 0) f ar u 7 (by omega)) rfl rfl rfl rfl (by omega) (by decide) (Nat.le_of_ble_eq_true rfl) (Nat.le_of_ble_eq_true rfl) dX4_put_1) [0, 1] [2, 3, 4, 5, 6, 7, 8, 9, 10] [9, 10, 0, 1, 2, 3, 4, 5, 6, 7, 8] rfl rfl rfl rfl rfl rfl rfl ?_
    refine rr_if_eqD 11 dX4_put_4 (by decide) (fun c_8 => ?_) (fun c_8 => ?_)
    · skip
      refine rr_aload_n 0 dX4_put_11 rfl ?_
      refine rr_get fX4_15 0 rfl rfl dX4_put_12 ?_
      refine rr_aload_n 0 dX4_put_15 rfl ?_
      refine rr_get fX4_22 0 rfl rfl dX4_put_16 ?_
      refine rr_aald (b := (u 7)) 1 7 rfl rfl (by omega) (by omega) rfl dX4_put_19 ?_
      refine rr_aload_n 1 dX4_put_20 rfl ?_
      refine rr_callFv (ws2 := [(f, ob 4 [.ref ar, .int (zz 7)]), (ar, aH E 8 (fun i => some (u i))), ((u 0), hO (g 0)), ((u 1), hO (g 1)), ((u 2), hO (g 2)), ((u 3), hO (g 3)), ((u 4), hO (g 4)), ((u 5), hO (g 5)), ((u 6), hO (g 6)), ((u 7), hO h), (a, hO h)]) (wr := [(f, ob 4 [.ref ar, .int (zz 7)]), (ar, aH E 8 (fun i => some (u i))), ((u 0), hO (g 0)), ((u 1), hO (g 1)), ((u 2), hO (g 2)), ((u 3), hO (g 3)), ((u 4), hO (g 4)), ((u 5), hO (g 5)), ((u 6), hO (g 6))]) (call_V (q0 := 0) kX4_33 (c_copy E (d + 0) (u 7) a (g 7) h) rfl rfl rfl rfl (by omega) (by decide) (Nat.le_of_ble_eq_true rfl) (Nat.le_of_ble_eq_true rfl) dX4_put_21) [9, 10] [0, 1, 2, 3, 4, 5, 6, 7, 8] [0, 1, 2, 3, 4, 5, 6, 7, 8, 9, 10] rfl rfl rfl rfl rfl rfl rfl ?_
      refine rr_aload_n 0 dX4_put_24 rfl ?_
      refine rr_dup dX4_put_25 rfl ?_
      refine rr_get fX4_22 0 rfl rfl dX4_put_26 ?_
      refine rr_iconst dX4_put_29 ?_
      refine rr_iadd dX4_put_30 ?_
      refine rr_top (b := 8) (by decide) ?_
      refine rr_put (ws2 := [(f, ob 4 [.ref ar, .int (zz 8)]), (ar, aH E 8 (fun i => some (u i))), ((u 0), hO (g 0)), ((u 1), hO (g 1)), ((u 2), hO (g 2)), ((u 3), hO (g 3)), ((u 4), hO (g 4)), ((u 5), hO (g 5)), ((u 6), hO (g 6)), ((u 7), hO h), (a, hO h)]) fX4_22 0 rfl rfl rfl (Nat.le_of_ble_eq_true rfl) rfl dX4_put_31 ?_
      exact rr_ret dX4_put_34 rfl ⟨rfl, u, rfl⟩
    · skip
      exfalso; omega
  · skip
    refine RR.eq (ws2 := [(f, ob 4 [.ref ar, .int (zz 8)]), (ar, aH E 8 (fun i => some (u i))), ((u 0), hO (g 0)), ((u 1), hO (g 1)), ((u 2), hO (g 2)), ((u 3), hO (g 3)), ((u 4), hO (g 4)), ((u 5), hO (g 5)), ((u 6), hO (g 6)), ((u 7), hO (g 7)), (a, hO h)]) rfl rfl rfl rfl ?_
    refine rr_aload_n 0 dX4_put_0 rfl ?_
    refine rr_callFi (ws2 := [(f, ob 4 [.ref ar, .int (zz 8)]), (ar, aH E 8 (fun i => some (u i))), ((u 0), hO (g 0)), ((u 1), hO (g 1)), ((u 2), hO (g 2)), ((u 3), hO (g 3)), ((u 4), hO (g 4)), ((u 5), hO (g 5)), ((u 6), hO (g 6)), ((u 7), hO (g 7)), (a, hO h)]) (wr := [((u 0), hO (g 0)), ((u 1), hO (g 1)), ((u 2), hO (g 2)), ((u 3), hO (g 3)), ((u 4), hO (g 4)), ((u 5), hO (g 5)), ((u 6), hO (g 6)), ((u 7), hO (g 7)), (a, hO h)]) (call_V (q0 := 0) kX4_26 (c_isFull8 E (d + 0) f ar u 8 (by omega)) rfl rfl rfl rfl (by omega) (by decide) (Nat.le_of_ble_eq_true rfl) (Nat.le_of_ble_eq_true rfl) dX4_put_1) [0, 1] [2, 3, 4, 5, 6, 7, 8, 9, 10] [9, 10, 0, 1, 2, 3, 4, 5, 6, 7, 8] rfl rfl rfl rfl rfl rfl rfl ?_
    refine rr_if_eqD 11 dX4_put_4 (by decide) (fun c_9 => ?_) (fun c_9 => ?_)
    · skip
      exfalso; omega
    · skip
      refine rr_aload_n 0 dX4_put_7 rfl ?_
      refine rr_callFv (ws2 := shW8 E f ar (rot8 u) (rot8 g) 7 ++ [(a, hO h)]) (wr := [(a, hO h)]) (call_V (q0 := 0) kX4_30 (c_dropOldest E (d + 0) f ar u g) rfl rfl rfl rfl (by omega) (by decide) (Nat.le_of_ble_eq_true rfl) (Nat.le_of_ble_eq_true rfl) dX4_put_8) [0, 1, 2, 3, 4, 5, 6, 7, 8, 9] [10] [1, 2, 3, 4, 5, 6, 7, 8, 9, 10, 0] rfl rfl rfl rfl rfl rfl rfl ?_
      refine RR.eq (ws2 := [(f, ob 4 [.ref ar, .int (zz 7)]), (ar, aH E 8 (fun i => some (rot8 u i))), ((rot8 u 0), hO (rot8 g 0)), ((rot8 u 1), hO (rot8 g 1)), ((rot8 u 2), hO (rot8 g 2)), ((rot8 u 3), hO (rot8 g 3)), ((rot8 u 4), hO (rot8 g 4)), ((rot8 u 5), hO (rot8 g 5)), ((rot8 u 6), hO (rot8 g 6)), ((rot8 u 7), hO (rot8 g 7)), (a, hO h)]) rfl rfl rfl rfl ?_
      refine rr_aload_n 0 dX4_put_11 rfl ?_
      refine rr_get fX4_15 0 rfl rfl dX4_put_12 ?_
      refine rr_aload_n 0 dX4_put_15 rfl ?_
      refine rr_get fX4_22 0 rfl rfl dX4_put_16 ?_
      refine rr_aald (b := (rot8 u 7)) 1 7 rfl rfl (by omega) (by omega) rfl dX4_put_19 ?_
      refine rr_aload_n 1 dX4_put_20 rfl ?_
      refine rr_callFv (ws2 := [(f, ob 4 [.ref ar, .int (zz 7)]), (ar, aH E 8 (fun i => some (rot8 u i))), ((rot8 u 0), hO (rot8 g 0)), ((rot8 u 1), hO (rot8 g 1)), ((rot8 u 2), hO (rot8 g 2)), ((rot8 u 3), hO (rot8 g 3)), ((rot8 u 4), hO (rot8 g 4)), ((rot8 u 5), hO (rot8 g 5)), ((rot8 u 6), hO (rot8 g 6)), ((rot8 u 7), hO h), (a, hO h)]) (wr := [(f, ob 4 [.ref ar, .int (zz 7)]), (ar, aH E 8 (fun i => some (rot8 u i))), ((rot8 u 0), hO (rot8 g 0)), ((rot8 u 1), hO (rot8 g 1)), ((rot8 u 2), hO (rot8 g 2)), ((rot8 u 3), hO (rot8 g 3)), ((rot8 u 4), hO (rot8 g 4)), ((rot8 u 5), hO (rot8 g 5)), ((rot8 u 6), hO (rot8 g 6))]) (call_V (q0 := 0) kX4_33 (c_copy E (d + 0) (rot8 u 7) a (rot8 g 7) h) rfl rfl rfl rfl (by omega) (by decide) (Nat.le_of_ble_eq_true rfl) (Nat.le_of_ble_eq_true rfl) dX4_put_21) [9, 10] [0, 1, 2, 3, 4, 5, 6, 7, 8] [0, 1, 2, 3, 4, 5, 6, 7, 8, 9, 10] rfl rfl rfl rfl rfl rfl rfl ?_
      refine rr_aload_n 0 dX4_put_24 rfl ?_
      refine rr_dup dX4_put_25 rfl ?_
      refine rr_get fX4_22 0 rfl rfl dX4_put_26 ?_
      refine rr_iconst dX4_put_29 ?_
      refine rr_iadd dX4_put_30 ?_
      refine rr_top (b := 8) (by decide) ?_
      refine rr_put (ws2 := [(f, ob 4 [.ref ar, .int (zz 8)]), (ar, aH E 8 (fun i => some (rot8 u i))), ((rot8 u 0), hO (rot8 g 0)), ((rot8 u 1), hO (rot8 g 1)), ((rot8 u 2), hO (rot8 g 2)), ((rot8 u 3), hO (rot8 g 3)), ((rot8 u 4), hO (rot8 g 4)), ((rot8 u 5), hO (rot8 g 5)), ((rot8 u 6), hO (rot8 g 6)), ((rot8 u 7), hO h), (a, hO h)]) fX4_22 0 rfl rfl rfl (Nat.le_of_ble_eq_true rfl) rfl dX4_put_31 ?_
      exact rr_ret dX4_put_34 rfl ⟨rfl, rot8 u, rfl⟩
set_option maxRecDepth 100000 in
set_option maxHeartbeats 4000000 in
theorem c_put2 (E : Ev) (d : Nat) (f ar a : Nat) (u : Nat → Nat) (g : Nat → Nat → Int) (h : Nat → Int) (sz : Nat) (hs : sz < 2) : SP E mX4_put (d + 1) 0 0 [.ref f, .ref a] [(f, ob 4 [.ref ar, .int (zz ↑sz)]), (ar, aH E 2 (fun i => some (u i))), ((u 0), hO (g 0)), ((u 1), hO (g 1)), (a, hO h)] (FP none (shW2 E f ar u (updG g sz h) (sz + 1) ++ [(a, hO h)])) := by
  show RR E mX4_put (d + 1) 0 0 0 [(0, .ref f), (1, .ref a)] [] [(f, ob 4 [.ref ar, .int (zz ↑sz)]), (ar, aH E 2 (fun i => some (u i))), ((u 0), hO (g 0)), ((u 1), hO (g 1)), (a, hO h)] (FP none (shW2 E f ar u (updG g sz h) (sz + 1) ++ [(a, hO h)]))
  rcases (show sz = 0 ∨ sz = 1 by omega) with rfl | rfl
  · skip
    refine RR.eq (ws2 := [(f, ob 4 [.ref ar, .int (zz 0)]), (ar, aH E 2 (fun i => some (u i))), ((u 0), hO (g 0)), ((u 1), hO (g 1)), (a, hO h)]) rfl rfl rfl rfl ?_
    refine rr_aload_n 0 dX4_put_0 rfl ?_
    refine rr_callFi (ws2 := [(f, ob 4 [.ref ar, .int (zz 0)]), (ar, aH E 2 (fun i => some (u i))), ((u 0), hO (g 0)), ((u 1), hO (g 1)), (a, hO h)]) (wr := [((u 0), hO (g 0)), ((u 1), hO (g 1)), (a, hO h)]) (call_V (q0 := 0) kX4_26 (c_isFull2 E (d + 0) f ar u 0 (by omega)) rfl rfl rfl rfl (by omega) (by decide) (Nat.le_of_ble_eq_true rfl) (Nat.le_of_ble_eq_true rfl) dX4_put_1) [0, 1] [2, 3, 4] [3, 4, 0, 1, 2] rfl rfl rfl rfl rfl rfl rfl ?_
    refine rr_if_eqD 11 dX4_put_4 (by decide) (fun c_1 => ?_) (fun c_1 => ?_)
    · skip
      refine rr_aload_n 0 dX4_put_11 rfl ?_
      refine rr_get fX4_15 0 rfl rfl dX4_put_12 ?_
      refine rr_aload_n 0 dX4_put_15 rfl ?_
      refine rr_get fX4_22 0 rfl rfl dX4_put_16 ?_
      refine rr_aald (b := (u 0)) 1 0 rfl rfl (by omega) (by omega) rfl dX4_put_19 ?_
      refine rr_aload_n 1 dX4_put_20 rfl ?_
      refine rr_callFv (ws2 := [(f, ob 4 [.ref ar, .int (zz 0)]), (ar, aH E 2 (fun i => some (u i))), ((u 0), hO h), ((u 1), hO (g 1)), (a, hO h)]) (wr := [(f, ob 4 [.ref ar, .int (zz 0)]), (ar, aH E 2 (fun i => some (u i))), ((u 1), hO (g 1))]) (call_V (q0 := 0) kX4_33 (c_copy E (d + 0) (u 0) a (g 0) h) rfl rfl rfl rfl (by omega) (by decide) (Nat.le_of_ble_eq_true rfl) (Nat.le_of_ble_eq_true rfl) dX4_put_21) [2, 4] [0, 1, 3] [0, 1, 3, 2, 4] rfl rfl rfl rfl rfl rfl rfl ?_
      refine rr_aload_n 0 dX4_put_24 rfl ?_
      refine rr_dup dX4_put_25 rfl ?_
      refine rr_get fX4_22 0 rfl rfl dX4_put_26 ?_
      refine rr_iconst dX4_put_29 ?_
      refine rr_iadd dX4_put_30 ?_
      refine rr_top (b := 1) (by decide) ?_
      refine rr_put (ws2 := [(f, ob 4 [.ref ar, .int (zz 1)]), (ar, aH E 2 (fun i => some (u i))), ((u 0), hO h), ((u 1), hO (g 1)), (a, hO h)]) fX4_22 0 rfl rfl rfl (Nat.le_of_ble_eq_true rfl) rfl dX4_put_31 ?_
      exact rr_ret dX4_put_34 rfl ⟨rfl, rfl⟩
    · skip
      exfalso; omega
  · skip
    refine RR.eq (ws2 := [(f, ob 4 [.ref ar, .int (zz 1)]), (ar, aH E 2 (fun i => some (u i))), ((u 0), hO (g 0)), ((u 1), hO (g 1)), (a, hO h)]) rfl rfl rfl rfl ?_
    refine rr_aload_n 0 dX4_put_0 rfl ?_
    refine rr_callFi (ws2 := [(f, ob 4 [.ref ar, .int (zz 1)]), (ar, aH E 2 (fun i => some (u i))), ((u 0), hO (g 0)), ((u 1), hO (g 1)), (a, hO h)]) (wr := [((u 0), hO (g 0)), ((u 1), hO (g 1)), (a, hO h)]) (call_V (q0 := 0) kX4_26 (c_isFull2 E (d + 0) f ar u 1 (by omega)) rfl rfl rfl rfl (by omega) (by decide) (Nat.le_of_ble_eq_true rfl) (Nat.le_of_ble_eq_true rfl) dX4_put_1) [0, 1] [2, 3, 4] [3, 4, 0, 1, 2] rfl rfl rfl rfl rfl rfl rfl ?_
    refine rr_if_eqD 11 dX4_put_4 (by decide) (fun c_2 => ?_) (fun c_2 => ?_)
    · skip
      refine rr_aload_n 0 dX4_put_11 rfl ?_
      refine rr_get fX4_15 0 rfl rfl dX4_put_12 ?_
      refine rr_aload_n 0 dX4_put_15 rfl ?_
      refine rr_get fX4_22 0 rfl rfl dX4_put_16 ?_
      refine rr_aald (b := (u 1)) 1 1 rfl rfl (by omega) (by omega) rfl dX4_put_19 ?_
      refine rr_aload_n 1 dX4_put_20 rfl ?_
      refine rr_callFv (ws2 := [(f, ob 4 [.ref ar, .int (zz 1)]), (ar, aH E 2 (fun i => some (u i))), ((u 0), hO (g 0)), ((u 1), hO h), (a, hO h)]) (wr := [(f, ob 4 [.ref ar, .int (zz 1)]), (ar, aH E 2 (fun i => some (u i))), ((u 0), hO (g 0))]) (call_V (q0 := 0) kX4_33 (c_copy E (d + 0) (u 1) a (g 1) h) rfl rfl rfl rfl (by omega) (by decide) (Nat.le_of_ble_eq_true rfl) (Nat.le_of_ble_eq_true rfl) dX4_put_21) [3, 4] [0, 1, 2] [0, 1, 2, 3, 4] rfl rfl rfl rfl rfl rfl rfl ?_
      refine rr_aload_n 0 dX4_put_24 rfl ?_
      refine rr_dup dX4_put_25 rfl ?_
      refine rr_get fX4_22 0 rfl rfl dX4_put_26 ?_
      refine rr_iconst dX4_put_29 ?_
      refine rr_iadd dX4_put_30 ?_
      refine rr_top (b := 2) (by decide) ?_
      refine rr_put (ws2 := [(f, ob 4 [.ref ar, .int (zz 2)]), (ar, aH E 2 (fun i => some (u i))), ((u 0), hO (g 0)), ((u 1), hO h), (a, hO h)]) fX4_22 0 rfl rfl rfl (Nat.le_of_ble_eq_true rfl) rfl dX4_put_31 ?_
      exact rr_ret dX4_put_34 rfl ⟨rfl, rfl⟩
    · skip
      exfalso; omega
set_option maxRecDepth 100000 in
set_option maxHeartbeats 4000000 in
theorem c_take8_y (E : Ev) (d : Nat) (f ar a : Nat) (u : Nat → Nat) (g : Nat → Nat → Int) (h : Nat → Int) (sz : Nat) (hs : sz < 8) : SP E mX4_takeLast (d + 1) 0 0 [.ref f, .ref a] [(f, ob 4 [.ref ar, .int (zz (↑(sz + 1)))]), (ar, aH E 8 (fun i => some (u i))), ((u 0), hO (g 0)), ((u 1), hO (g 1)), ((u 2), hO (g 2)), ((u 3), hO (g 3)), ((u 4), hO (g 4)), ((u 5), hO (g 5)), ((u 6), hO (g 6)), ((u 7), hO (g 7)), (a, hO h)] (FP (some (.int (zz 1))) (shW8 E f ar u g sz ++ [(a, hO (g sz))])) := by
  show RR E mX4_takeLast (d + 1) 0 0 0 [(0, .ref f), (1, .ref a)] [] [(f, ob 4 [.ref ar, .int (zz (↑(sz + 1)))]), (ar, aH E 8 (fun i => some (u i))), ((u 0), hO (g 0)), ((u 1), hO (g 1)), ((u 2), hO (g 2)), ((u 3), hO (g 3)), ((u 4), hO (g 4)), ((u 5), hO (g 5)), ((u 6), hO (g 6)), ((u 7), hO (g 7)), (a, hO h)] (FP (some (.int (zz 1))) (shW8 E f ar u g sz ++ [(a, hO (g sz))]))
  rcases (show sz = 0 ∨ sz = 1 ∨ sz = 2 ∨ sz = 3 ∨ sz = 4 ∨ sz = 5 ∨ sz = 6 ∨ sz = 7 by omega) with rfl | rfl | rfl | rfl | rfl | rfl | rfl | rfl
  · skip
    refine RR.eq (ws2 := [(f, ob 4 [.ref ar, .int (zz 1)]), (ar, aH E 8 (fun i => some (u i))), ((u 0), hO (g 0)), ((u 1), hO (g 1)), ((u 2), hO (g 2)), ((u 3), hO (g 3)), ((u 4), hO (g 4)), ((u 5), hO (g 5)), ((u 6), hO (g 6)), ((u 7), hO (g 7)), (a, hO h)]) rfl rfl rfl rfl ?_
    refine rr_aload_n 0 dX4_takeLast_0 rfl ?_
    refine rr_get fX4_22 0 rfl rfl dX4_takeLast_1 ?_
    refine rr_iconst dX4_takeLast_4 ?_
    refine rr_icmp_lt 20 dX4_takeLast_5 (by decide) (by omega) (by omega) (fun c_1 => ?_) (fun c_1 => ?_)
    · skip
      exfalso; omega
    · skip
      refine rr_aload_n 0 dX4_takeLast_8 rfl ?_
      refine rr_get fX4_22 0 rfl rfl dX4_takeLast_9 ?_
      refine rr_aload_n 0 dX4_takeLast_12 rfl ?_
      refine rr_get fX4_15 0 rfl rfl dX4_takeLast_13 ?_
      refine rr_alenH 1 rfl dX4_takeLast_16 ?_
      refine rr_icmp_le 22 dX4_takeLast_17 (by decide) (by omega) (by omega) (fun c_2 => ?_) (fun c_2 => ?_)
      · skip
        refine rr_aload_n 0 dX4_takeLast_22 rfl ?_
        refine rr_dup dX4_takeLast_23 rfl ?_
        refine rr_get fX4_22 0 rfl rfl dX4_takeLast_24 ?_
        refine rr_iconst dX4_takeLast_27 ?_
        refine rr_isub dX4_takeLast_28 ?_
        refine rr_top (b := 0) (by decide) ?_
        refine rr_put (ws2 := [(f, ob 4 [.ref ar, .int (zz 0)]), (ar, aH E 8 (fun i => some (u i))), ((u 0), hO (g 0)), ((u 1), hO (g 1)), ((u 2), hO (g 2)), ((u 3), hO (g 3)), ((u 4), hO (g 4)), ((u 5), hO (g 5)), ((u 6), hO (g 6)), ((u 7), hO (g 7)), (a, hO h)]) fX4_22 0 rfl rfl rfl (Nat.le_of_ble_eq_true rfl) rfl dX4_takeLast_29 ?_
        refine rr_aload_n 1 dX4_takeLast_32 rfl ?_
        refine rr_aload_n 0 dX4_takeLast_33 rfl ?_
        refine rr_get fX4_15 0 rfl rfl dX4_takeLast_34 ?_
        refine rr_aload_n 0 dX4_takeLast_37 rfl ?_
        refine rr_get fX4_22 0 rfl rfl dX4_takeLast_38 ?_
        refine rr_aald (b := (u 0)) 1 0 rfl rfl (by omega) (by omega) rfl dX4_takeLast_41 ?_
        refine rr_callFv (ws2 := [(f, ob 4 [.ref ar, .int (zz 0)]), (ar, aH E 8 (fun i => some (u i))), ((u 0), hO (g 0)), ((u 1), hO (g 1)), ((u 2), hO (g 2)), ((u 3), hO (g 3)), ((u 4), hO (g 4)), ((u 5), hO (g 5)), ((u 6), hO (g 6)), ((u 7), hO (g 7)), (a, hO (g 0))]) (wr := [(f, ob 4 [.ref ar, .int (zz 0)]), (ar, aH E 8 (fun i => some (u i))), ((u 1), hO (g 1)), ((u 2), hO (g 2)), ((u 3), hO (g 3)), ((u 4), hO (g 4)), ((u 5), hO (g 5)), ((u 6), hO (g 6)), ((u 7), hO (g 7))]) (call_V (q0 := 0) kX4_33 (c_copy E (d + 0) a (u 0) h (g 0)) rfl rfl rfl rfl (by omega) (by decide) (Nat.le_of_ble_eq_true rfl) (Nat.le_of_ble_eq_true rfl) dX4_takeLast_42) [10, 2] [0, 1, 3, 4, 5, 6, 7, 8, 9] [0, 1, 10, 2, 3, 4, 5, 6, 7, 8, 9] rfl rfl rfl rfl rfl rfl rfl ?_
        refine rr_iconst dX4_takeLast_45 ?_
        exact rr_iret dX4_takeLast_46 rfl rfl ⟨rfl, rfl⟩
      · skip
        exfalso; omega
  · skip
    refine RR.eq (ws2 := [(f, ob 4 [.ref ar, .int (zz 2)]), (ar, aH E 8 (fun i => some (u i))), ((u 0), hO (g 0)), ((u 1), hO (g 1)), ((u 2), hO (g 2)), ((u 3), hO (g 3)), ((u 4), hO (g 4)), ((u 5), hO (g 5)), ((u 6), hO (g 6)), ((u 7), hO (g 7)), (a, hO h)]) rfl rfl rfl rfl ?_
    refine rr_aload_n 0 dX4_takeLast_0 rfl ?_
    refine rr_get fX4_22 0 rfl rfl dX4_takeLast_1 ?_
    refine rr_iconst dX4_takeLast_4 ?_
    refine rr_icmp_lt 20 dX4_takeLast_5 (by decide) (by omega) (by omega) (fun c_3 => ?_) (fun c_3 => ?_)
    · skip
      exfalso; omega
    · skip
      refine rr_aload_n 0 dX4_takeLast_8 rfl ?_
      refine rr_get fX4_22 0 rfl rfl dX4_takeLast_9 ?_
      refine rr_aload_n 0 dX4_takeLast_12 rfl ?_
      refine rr_get fX4_15 0 rfl rfl dX4_takeLast_13 ?_
      refine rr_alenH 1 rfl dX4_takeLast_16 ?_
      refine rr_icmp_le 22 dX4_takeLast_17 (by decide) (by omega) (by omega) (fun c_4 => ?_) (fun c_4 => ?_)
      · skip
        refine rr_aload_n 0 dX4_takeLast_22 rfl ?_
        refine rr_dup dX4_takeLast_23 rfl ?_
        refine rr_get fX4_22 0 rfl rfl dX4_takeLast_24 ?_
        refine rr_iconst dX4_takeLast_27 ?_
        refine rr_isub dX4_takeLast_28 ?_
        refine rr_top (b := 1) (by decide) ?_
        refine rr_put (ws2 := [(f, ob 4 [.ref ar, .int (zz 1)]), (ar, aH E 8 (fun i => some (u i))), ((u 0), hO (g 0)), ((u 1), hO (g 1)), ((u 2), hO (g 2)), ((u 3), hO (g 3)), ((u 4), hO (g 4)), ((u 5), hO (g 5)), ((u 6), hO (g 6)), ((u 7), hO (g 7)), (a, hO h)]) fX4_22 0 rfl rfl rfl (Nat.le_of_ble_eq_true rfl) rfl dX4_takeLast_29 ?_
        refine rr_aload_n 1 dX4_takeLast_32 rfl ?_
        refine rr_aload_n 0 dX4_takeLast_33 rfl ?_
        refine rr_get fX4_15 0 rfl rfl dX4_takeLast_34 ?_
        refine rr_aload_n 0 dX4_takeLast_37 rfl ?_
        refine rr_get fX4_22 0 rfl rfl dX4_takeLast_38 ?_
        refine rr_aald (b := (u 1)) 1 1 rfl rfl (by omega) (by omega) rfl dX4_takeLast_41 ?_
        refine rr_callFv (ws2 := [(f, ob 4 [.ref ar, .int (zz 1)]), (ar, aH E 8 (fun i => some (u i))), ((u 0), hO (g 0)), ((u 1), hO (g 1)), ((u 2), hO (g 2)), ((u 3), hO (g 3)), ((u 4), hO (g 4)), ((u 5), hO (g 5)), ((u 6), hO (g 6)), ((u 7), hO (g 7)), (a, hO (g 1))]) (wr := [(f, ob 4 [.ref ar, .int (zz 1)]), (ar, aH E 8 (fun i => some (u i))), ((u 0), hO (g 0)), ((u 2), hO (g 2)), ((u 3), hO (g 3)), ((u 4), hO (g 4)), ((u 5), hO (g 5)), ((u 6), hO (g 6)), ((u 7), hO (g 7))]) (call_V (q0 := 0) kX4_33 (c_copy E (d + 0) a (u 1) h (g 1)) rfl rfl rfl rfl (by omega) (by decide) (Nat.le_of_ble_eq_true rfl) (Nat.le_of_ble_eq_true rfl) dX4_takeLast_42) [10, 3] [0, 1, 2, 4, 5, 6, 7, 8, 9] [0, 1, 2, 10, 3, 4, 5, 6, 7, 8, 9] rfl rfl rfl rfl rfl rfl rfl ?_
        refine rr_iconst dX4_takeLast_45 ?_
        exact rr_iret dX4_takeLast_46 rfl rfl ⟨rfl, rfl⟩
      · skip
        exfalso; omega
  · skip
    refine RR.eq (ws2 := [(f, ob 4 [.ref ar, .int (zz 3)]), (ar, aH E 8 (fun i => some (u i))), ((u 0), hO (g 0)), ((u 1), hO (g 1)), ((u 2), hO (g 2)), ((u 3), hO (g 3)), ((u 4), hO (g 4)), ((u 5), hO (g 5)), ((u 6), hO (g 6)), ((u 7), hO (g 7)), (a, hO h)]) rfl rfl rfl rfl ?_
    refine rr_aload_n 0 dX4_takeLast_0 rfl ?_
    refine rr_get fX4_22 0 rfl rfl dX4_takeLast_1 ?_
    refine rr_iconst dX4_takeLast_4 ?_
    refine rr_icmp_lt 20 dX4_takeLast_5 (by decide) (by omega) (by omega) (fun c_5 => ?_) (fun c_5 => ?_)
    · skip
      exfalso; omega
    · skip
      refine rr_aload_n 0 dX4_takeLast_8 rfl ?_
      refine rr_get fX4_22 0 rfl rfl dX4_takeLast_9 ?_
      refine rr_aload_n 0 dX4_takeLast_12 rfl ?_
      refine rr_get fX4_15 0 rfl rfl dX4_takeLast_13 ?_
      refine rr_alenH 1 rfl dX4_takeLast_16 ?_
      refine rr_icmp_le 22 dX4_takeLast_17 (by decide) (by omega) (by omega) (fun c_6 => ?_) (fun c_6 => ?_)
      · skip
        refine rr_aload_n 0 dX4_takeLast_22 rfl ?_
        refine rr_dup dX4_takeLast_23 rfl ?_
        refine rr_get fX4_22 0 rfl rfl dX4_takeLast_24 ?_
        refine rr_iconst dX4_takeLast_27 ?_
        refine rr_isub dX4_takeLast_28 ?_
        refine rr_top (b := 2) (by decide) ?_
        refine rr_put (ws2 := [(f, ob 4 [.ref ar, .int (zz 2)]), (ar, aH E 8 (fun i => some (u i))), ((u 0), hO (g 0)), ((u 1), hO (g 1)), ((u 2), hO (g 2)), ((u 3), hO (g 3)), ((u 4), hO (g 4)), ((u 5), hO (g 5)), ((u 6), hO (g 6)), ((u 7), hO (g 7)), (a, hO h)]) fX4_22 0 rfl rfl rfl (Nat.le_of_ble_eq_true rfl) rfl dX4_takeLast_29 ?_
        refine rr_aload_n 1 dX4_takeLast_32 rfl ?_
        refine rr_aload_n 0 dX4_takeLast_33 rfl ?_
        refine rr_get fX4_15 0 rfl rfl dX4_takeLast_34 ?_
        refine rr_aload_n 0 dX4_takeLast_37 rfl ?_
        refine rr_get fX4_22 0 rfl rfl dX4_takeLast_38 ?_
        refine rr_aald (b := (u 2)) 1 2 rfl rfl (by omega) (by omega) rfl dX4_takeLast_41 ?_
        refine rr_callFv (ws2 := [(f, ob 4 [.ref ar, .int (zz 2)]), (ar, aH E 8 (fun i => some (u i))), ((u 0), hO (g 0)), ((u 1), hO (g 1)), ((u 2), hO (g 2)), ((u 3), hO (g 3)), ((u 4), hO (g 4)), ((u 5), hO (g 5)), ((u 6), hO (g 6)), ((u 7), hO (g 7)), (a, hO (g 2))]) (wr := [(f, ob 4 [.ref ar, .int (zz 2)]), (ar, aH E 8 (fun i => some (u i))), ((u 0), hO (g 0)), ((u 1), hO (g 1)), ((u 3), hO (g 3)), ((u 4), hO (g 4)), ((u 5), hO (g 5)), ((u 6), hO (g 6)), ((u 7), hO (g 7))]) (call_V (q0 := 0) kX4_33 (c_copy E (d + 0) a (u 2) h (g 2)) rfl rfl rfl rfl (by omega) (by decide) (Nat.le_of_ble_eq_true rfl) (Nat.le_of_ble_eq_true rfl) dX4_takeLast_42) [10, 4] [0, 1, 2, 3, 5, 6, 7, 8, 9] [0, 1, 2, 3, 10, 4, 5, 6, 7, 8, 9] rfl rfl rfl rfl rfl rfl rfl ?_
        refine rr_iconst dX4_takeLast_45 ?_
        exact rr_iret dX4_takeLast_46 rfl rfl ⟨rfl, rfl⟩
      · skip
        exfalso; omega
  · skip
    refine RR.eq (ws2 := [(f, ob 4 [.ref ar, .int (zz 4)]), (ar, aH E 8 (fun i => some (u i))), ((u 0), hO (g 0)), ((u 1), hO (g 1)), ((u 2), hO (g 2)), ((u 3), hO (g 3)), ((u 4), hO (g 4)), ((u 5), hO (g 5)), ((u 6), hO (g 6)), ((u 7), hO (g 7)), (a, hO h)]) rfl rfl rfl rfl ?_
    refine rr_aload_n 0 dX4_takeLast_0 rfl ?_
    refine rr_get fX4_22 0 rfl rfl dX4_takeLast_1 ?_
    refine rr_iconst dX4_takeLast_4 ?_
    refine rr_icmp_lt 20 dX4_takeLast_5 (by decide) (by omega) (by omega) (fun c_7 => ?_) (fun c_7 => ?_)
    · skip
      exfalso; omega
    · skip
      refine rr_aload_n 0 dX4_takeLast_8 rfl ?_
      refine rr_get fX4_22 0 rfl rfl dX4_takeLast_9 ?_
      refine rr_aload_n 0 dX4_takeLast_12 rfl ?_
      refine rr_get fX4_15 0 rfl rfl dX4_takeLast_13 ?_
      refine rr_alenH 1 rfl dX4_takeLast_16 ?_
      refine rr_icmp_le 22 dX4_takeLast_17 (by decide) (by omega) (by omega) (fun c_8 => ?_) (fun c_8 => ?_)
      · skip
        refine rr_aload_n 0 dX4_takeLast_22 rfl ?_
        refine rr_dup dX4_takeLast_23 rfl ?_
        refine rr_get fX4_22 0 rfl rfl dX4_takeLast_24 ?_
        refine rr_iconst dX4_takeLast_27 ?_
        refine rr_isub dX4_takeLast_28 ?_
        refine rr_top (b := 3) (by decide) ?_
        refine rr_put (ws2 := [(f, ob 4 [.ref ar, .int (zz 3)]), (ar, aH E 8 (fun i => some (u i))), ((u 0), hO (g 0)), ((u 1), hO (g 1)), ((u 2), hO (g 2)), ((u 3), hO (g 3)), ((u 4), hO (g 4)), ((u 5), hO (g 5)), ((u 6), hO (g 6)), ((u 7), hO (g 7)), (a, hO h)]) fX4_22 0 rfl rfl rfl (Nat.le_of_ble_eq_true rfl) rfl dX4_takeLast_29 ?_
        refine rr_aload_n 1 dX4_takeLast_32 rfl ?_
        refine rr_aload_n 0 dX4_takeLast_33 rfl ?_
        refine rr_get fX4_15 0 rfl rfl dX4_takeLast_34 ?_
        refine rr_aload_n 0 dX4_takeLast_37 rfl ?_
        refine rr_get fX4_22 0 rfl rfl dX4_takeLast_38 ?_
        refine rr_aald (b := (u 3)) 1 3 rfl rfl (by omega) (by omega) rfl dX4_takeLast_41 ?_
        refine rr_callFv (ws2 := [(f, ob 4 [.ref ar, .int (zz 3)]), (ar, aH E 8 (fun i => some (u i))), ((u 0), hO (g 0)), ((u 1), hO (g 1)), ((u 2), hO (g 2)), ((u 3), hO (g 3)), ((u 4), hO (g 4)), ((u 5), hO (g 5)), ((u 6), hO (g 6)), ((u 7), hO (g 7)), (a, hO (g 3))]) (wr := [(f, ob 4 [.ref ar, .int (zz 3)]), (ar, aH E 8 (fun i => some (u i))), ((u 0), hO (g 0)), ((u 1), hO (g 1)), ((u 2), hO (g 2)), ((u 4), hO (g 4)), ((u 5), hO (g 5)), ((u 6), hO (g 6)), ((u 7), hO (g 7))]) (call_V (q0 := 0) kX4_33 (c_copy E (d + 0) a (u 3) h (g 3)) rfl rfl rfl rfl (by omega) (by decide) (Nat.le_of_ble_eq_true rfl) (Nat.le_of_ble_eq_true rfl) dX4_takeLast_42) [10, 5] [0, 1, 2, 3, 4, 6, 7, 8, 9] [0, 1, 2, 3, 4, 10, 5, 6, 7, 8, 9] rfl rfl rfl rfl rfl rfl rfl ?_
        refine rr_iconst dX4_takeLast_45 ?_
        exact rr_iret dX4_takeLast_46 rfl rfl ⟨rfl, rfl⟩
      · skip
        exfalso; omega
  · skip
    refine RR.eq (ws2 := [(f, ob 4 [.ref ar, .int (zz 5)]), (ar, aH E 8 (fun i => some (u i))), ((u 0), hO (g 0)), ((u 1), hO (g 1)), ((u 2), hO (g 2)), ((u 3), hO (g 3)), ((u 4), hO (g 4)), ((u 5), hO (g 5)), ((u 6), hO (g 6)), ((u 7), hO (g 7)), (a, hO h)]) rfl rfl rfl rfl ?_
    refine rr_aload_n 0 dX4_takeLast_0 rfl ?_
    refine rr_get fX4_22 0 rfl rfl dX4_takeLast_1 ?_
    refine rr_iconst dX4_takeLast_4 ?_
    refine rr_icmp_lt 20 dX4_takeLast_5 (by decide) (by omega) (by omega) (fun c_9 => ?_) (fun c_9 => ?_)
    · skip
      exfalso; omega
    · skip
      refine rr_aload_n 0 dX4_takeLast_8 rfl ?_
      refine rr_get fX4_22 0 rfl rfl dX4_takeLast_9 ?_
      refine rr_aload_n 0 dX4_takeLast_12 rfl ?_
      refine rr_get fX4_15 0 rfl rfl dX4_takeLast_13 ?_
      refine rr_alenH 1 rfl dX4_takeLast_16 ?_
      refine rr_icmp_le 22 dX4_takeLast_17 (by decide) (by omega) (by omega) (fun c_10 => ?_) (fun c_10 => ?_)
      · skip
        refine rr_aload_n 0 dX4_takeLast_22 rfl ?_
        refine rr_dup dX4_takeLast_23 rfl ?_
        refine rr_get fX4_22 0 rfl rfl dX4_takeLast_24 ?_
        refine rr_iconst dX4_takeLast_27 ?_
        refine rr_isub dX4_takeLast_28 ?_
        refine rr_top (b := 4) (by decide) ?_
        refine rr_put (ws2 := [(f, ob 4 [.ref ar, .int (zz 4)]), (ar, aH E 8 (fun i => some (u i))), ((u 0), hO (g 0)), ((u 1), hO (g 1)), ((u 2), hO (g 2)), ((u 3), hO (g 3)), ((u 4), hO (g 4)), ((u 5), hO (g 5)), ((u 6), hO (g 6)), ((u 7), hO (g 7)), (a, hO h)]) fX4_22 0 rfl rfl rfl (Nat.le_of_ble_eq_true rfl) rfl dX4_takeLast_29 ?_
        refine rr_aload_n 1 dX4_takeLast_32 rfl ?_
        refine rr_aload_n 0 dX4_takeLast_33 rfl ?_
        refine rr_get fX4_15 0 rfl rfl dX4_takeLast_34 ?_
        refine rr_aload_n 0 dX4_takeLast_37 rfl ?_
        refine rr_get fX4_22 0 rfl rfl dX4_takeLast_38 ?_
        refine rr_aald (b := (u 4)) 1 4 rfl rfl (by omega) (by omega) rfl dX4_takeLast_41 ?_
        refine rr_callFv (ws2 := [(f, ob 4 [.ref ar, .int (zz 4)]), (ar, aH E 8 (fun i => some (u i))), ((u 0), hO (g 0)), ((u 1), hO (g 1)), ((u 2), hO (g 2)), ((u 3), hO (g 3)), ((u 4), hO (g 4)), ((u 5), hO (g 5)), ((u 6), hO (g 6)), ((u 7), hO (g 7)), (a, hO (g 4))]) (wr := [(f, ob 4 [.ref ar, .int (zz 4)]), (ar, aH E 8 (fun i => some (u i))), ((u 0), hO (g 0)), ((u 1), hO (g 1)), ((u 2), hO (g 2)), ((u 3), hO (g 3)), ((u 5), hO (g 5)), ((u 6), hO (g 6)), ((u 7), hO (g 7))]) (call_V (q0 := 0) kX4_33 (c_copy E (d + 0) a (u 4) h (g 4)) rfl rfl rfl rfl (by omega) (by decide) (Nat.le_of_ble_eq_true rfl) (Nat.le_of_ble_eq_true rfl) dX4_takeLast_42) [10, 6] [0, 1, 2, 3, 4, 5, 7, 8, 9] [0, 1, 2, 3, 4, 5, 10, 6, 7, 8, 9] rfl rfl rfl rfl rfl rfl rfl ?_
        refine rr_iconst dX4_takeLast_45 ?_
        exact rr_iret dX4_takeLast_46 rfl rfl ⟨rfl, rfl⟩
      · skip
        exfalso; omega
  · skip
    refine RR.eq (ws2 := [(f, ob 4 [.ref ar, .int (zz 6)]), (ar, aH E 8 (fun i => some (u i))), ((u 0), hO (g 0)), ((u 1), hO (g 1)), ((u 2), hO (g 2)), ((u 3), hO (g 3)), ((u 4), hO (g 4)), ((u 5), hO (g 5)), ((u 6), hO (g 6)), ((u 7), hO (g 7)), (a, hO h)]) rfl rfl rfl rfl ?_
    refine rr_aload_n 0 dX4_takeLast_0 rfl ?_
    refine rr_get fX4_22 0 rfl rfl dX4_takeLast_1 ?_
    refine rr_iconst dX4_takeLast_4 ?_
    refine rr_icmp_lt 20 dX4_takeLast_5 (by decide) (by omega) (by omega) (fun c_11 => ?_) (fun c_11 => ?_)
    · skip
      exfalso; omega
    · skip
      refine rr_aload_n 0 dX4_takeLast_8 rfl ?_
      refine rr_get fX4_22 0 rfl rfl dX4_takeLast_9 ?_
      refine rr_aload_n 0 dX4_takeLast_12 rfl ?_
      refine rr_get fX4_15 0 rfl rfl dX4_takeLast_13 ?_
      refine rr_alenH 1 rfl dX4_takeLast_16 ?_
      refine rr_icmp_le 22 dX4_takeLast_17 (by decide) (by omega) (by omega) (fun c_12 => ?_) (fun c_12 => ?_)
      · skip
        refine rr_aload_n 0 dX4_takeLast_22 rfl ?_
        refine rr_dup dX4_takeLast_23 rfl ?_
        refine rr_get fX4_22 0 rfl rfl dX4_takeLast_24 ?_
        refine rr_iconst dX4_takeLast_27 ?_
        refine rr_isub dX4_takeLast_28 ?_
        refine rr_top (b := 5) (by decide) ?_
        refine rr_put (ws2 := [(f, ob 4 [.ref ar, .int (zz 5)]), (ar, aH E 8 (fun i => some (u i))), ((u 0), hO (g 0)), ((u 1), hO (g 1)), ((u 2), hO (g 2)), ((u 3), hO (g 3)), ((u 4), hO (g 4)), ((u 5), hO (g 5)), ((u 6), hO (g 6)), ((u 7), hO (g 7)), (a, hO h)]) fX4_22 0 rfl rfl rfl (Nat.le_of_ble_eq_true rfl) rfl dX4_takeLast_29 ?_
        refine rr_aload_n 1 dX4_takeLast_32 rfl ?_
        refine rr_aload_n 0 dX4_takeLast_33 rfl ?_
        refine rr_get fX4_15 0 rfl rfl dX4_takeLast_34 ?_
        refine rr_aload_n 0 dX4_takeLast_37 rfl ?_
        refine rr_get fX4_22 0 rfl rfl dX4_takeLast_38 ?_
        refine rr_aald (b := (u 5)) 1 5 rfl rfl (by omega) (by omega) rfl dX4_takeLast_41 ?_
        refine rr_callFv (ws2 := [(f, ob 4 [.ref ar, .int (zz 5)]), (ar, aH E 8 (fun i => some (u i))), ((u 0), hO (g 0)), ((u 1), hO (g 1)), ((u 2), hO (g 2)), ((u 3), hO (g 3)), ((u 4), hO (g 4)), ((u 5), hO (g 5)), ((u 6), hO (g 6)), ((u 7), hO (g 7)), (a, hO (g 5))]) (wr := [(f, ob 4 [.ref ar, .int (zz 5)]), (ar, aH E 8 (fun i => some (u i))), ((u 0), hO (g 0)), ((u 1), hO (g 1)), ((u 2), hO (g 2)), ((u 3), hO (g 3)), ((u 4), hO (g 4)), ((u 6), hO (g 6)), ((u 7), hO (g 7))]) (call_V (q0 := 0) kX4_33 (c_copy E (d + 0) a (u 5) h (g 5)) rfl rfl rfl rfl (by omega) (by decide) (Nat.le_of_ble_eq_true rfl) (Nat.le_of_ble_eq_true rfl) dX4_takeLast_42) [10, 7] [0, 1, 2, 3, 4, 5, 6, 8, 9] [0, 1, 2, 3, 4, 5, 6, 10, 7, 8, 9] rfl rfl rfl rfl rfl rfl rfl ?_
        refine rr_iconst dX4_takeLast_45 ?_
        exact rr_iret dX4_takeLast_46 rfl rfl ⟨rfl, rfl⟩
      · skip
        exfalso; omega
  · skip
    refine RR.eq (ws2 := [(f, ob 4 [.ref ar, .int (zz 7)]), (ar, aH E 8 (fun i => some (u i))), ((u 0), hO (g 0)), ((u 1), hO (g 1)), ((u 2), hO (g 2)), ((u 3), hO (g 3)), ((u 4), hO (g 4)), ((u 5), hO (g 5)), ((u 6), hO (g 6)), ((u 7), hO (g 7)), (a, hO h)]) rfl rfl rfl rfl ?_
    refine rr_aload_n 0 dX4_takeLast_0 rfl ?_
    refine rr_get fX4_22 0 rfl rfl dX4_takeLast_1 ?_
    refine rr_iconst dX4_takeLast_4 ?_
    refine rr_icmp_lt 20 dX4_takeLast_5 (by decide) (by omega) (by omega) (fun c_13 => ?_) (fun c_13 => ?_)
    · skip
      exfalso; omega
    · skip
      refine rr_aload_n 0 dX4_takeLast_8 rfl ?_
      refine rr_get fX4_22 0 rfl rfl dX4_takeLast_9 ?_
      refine rr_aload_n 0 dX4_takeLast_12 rfl ?_
      refine rr_get fX4_15 0 rfl rfl dX4_takeLast_13 ?_
      refine rr_alenH 1 rfl dX4_takeLast_16 ?_
      refine rr_icmp_le 22 dX4_takeLast_17 (by decide) (by omega) (by omega) (fun c_14 => ?_) (fun c_14 => ?_)
      · skip
        refine rr_aload_n 0 dX4_takeLast_22 rfl ?_
        refine rr_dup dX4_takeLast_23 rfl ?_
        refine rr_get fX4_22 0 rfl rfl dX4_takeLast_24 ?_
        refine rr_iconst dX4_takeLast_27 ?_
        refine rr_isub dX4_takeLast_28 ?_
        refine rr_top (b := 6) (by decide) ?_
        refine rr_put (ws2 := [(f, ob 4 [.ref ar, .int (zz 6)]), (ar, aH E 8 (fun i => some (u i))), ((u 0), hO (g 0)), ((u 1), hO (g 1)), ((u 2), hO (g 2)), ((u 3), hO (g 3)), ((u 4), hO (g 4)), ((u 5), hO (g 5)), ((u 6), hO (g 6)), ((u 7), hO (g 7)), (a, hO h)]) fX4_22 0 rfl rfl rfl (Nat.le_of_ble_eq_true rfl) rfl dX4_takeLast_29 ?_
        refine rr_aload_n 1 dX4_takeLast_32 rfl ?_
        refine rr_aload_n 0 dX4_takeLast_33 rfl ?_
        refine rr_get fX4_15 0 rfl rfl dX4_takeLast_34 ?_
        refine rr_aload_n 0 dX4_takeLast_37 rfl ?_
        refine rr_get fX4_22 0 rfl rfl dX4_takeLast_38 ?_
        refine rr_aald (b := (u 6)) 1 6 rfl rfl (by omega) (by omega) rfl dX4_takeLast_41 ?_
        refine rr_callFv (ws2 := [(f, ob 4 [.ref ar, .int (zz 6)]), (ar, aH E 8 (fun i => some (u i))), ((u 0), hO (g 0)), ((u 1), hO (g 1)), ((u 2), hO (g 2)), ((u 3), hO (g 3)), ((u 4), hO (g 4)), ((u 5), hO (g 5)), ((u 6), hO (g 6)), ((u 7), hO (g 7)), (a, hO (g 6))]) (wr := [(f, ob 4 [.ref ar, .int (zz 6)]), (ar, aH E 8 (fun i => some (u i))), ((u 0), hO (g 0)), ((u 1), hO (g 1)), ((u 2), hO (g 2)), ((u 3), hO (g 3)), ((u 4), hO (g 4)), ((u 5), hO (g 5)), ((u 7), hO (g 7))]) (call_V (q0 := 0) kX4_33 (c_copy E (d + 0) a (u 6) h (g 6)) rfl rfl rfl rfl (by omega) (by decide) (Nat.le_of_ble_eq_true rfl) (Nat.le_of_ble_eq_true rfl) dX4_takeLast_42) [10, 8] [0, 1, 2, 3, 4, 5, 6, 7, 9] [0, 1, 2, 3, 4, 5, 6, 7, 10, 8, 9] rfl rfl rfl rfl rfl rfl rfl ?_
        refine rr_iconst dX4_takeLast_45 ?_
        exact rr_iret dX4_takeLast_46 rfl rfl ⟨rfl, rfl⟩
      · skip
        exfalso; omega
  · skip
    refine RR.eq (ws2 := [(f, ob 4 [.ref ar, .int (zz 8)]), (ar, aH E 8 (fun i => some (u i))), ((u 0), hO (g 0)), ((u 1), hO (g 1)), ((u 2), hO (g 2)), ((u 3), hO (g 3)), ((u 4), hO (g 4)), ((u 5), hO (g 5)), ((u 6), hO (g 6)), ((u 7), hO (g 7)), (a, hO h)]) rfl rfl rfl rfl ?_
    refine rr_aload_n 0 dX4_takeLast_0 rfl ?_
    refine rr_get fX4_22 0 rfl rfl dX4_takeLast_1 ?_
    refine rr_iconst dX4_takeLast_4 ?_
    refine rr_icmp_lt 20 dX4_takeLast_5 (by decide) (by omega) (by omega) (fun c_15 => ?_) (fun c_15 => ?_)
    · skip
      exfalso; omega
    · skip
      refine rr_aload_n 0 dX4_takeLast_8 rfl ?_
      refine rr_get fX4_22 0 rfl rfl dX4_takeLast_9 ?_
      refine rr_aload_n 0 dX4_takeLast_12 rfl ?_
      refine rr_get fX4_15 0 rfl rfl dX4_takeLast_13 ?_
      refine rr_alenH 1 rfl dX4_takeLast_16 ?_
      refine rr_icmp_le 22 dX4_takeLast_17 (by decide) (by omega) (by omega) (fun c_16 => ?_) (fun c_16 => ?_)
      · skip
        refine rr_aload_n 0 dX4_takeLast_22 rfl ?_
        refine rr_dup dX4_takeLast_23 rfl ?_
        refine rr_get fX4_22 0 rfl rfl dX4_takeLast_24 ?_
        refine rr_iconst dX4_takeLast_27 ?_
        refine rr_isub dX4_takeLast_28 ?_
        refine rr_top (b := 7) (by decide) ?_
        refine rr_put (ws2 := [(f, ob 4 [.ref ar, .int (zz 7)]), (ar, aH E 8 (fun i => some (u i))), ((u 0), hO (g 0)), ((u 1), hO (g 1)), ((u 2), hO (g 2)), ((u 3), hO (g 3)), ((u 4), hO (g 4)), ((u 5), hO (g 5)), ((u 6), hO (g 6)), ((u 7), hO (g 7)), (a, hO h)]) fX4_22 0 rfl rfl rfl (Nat.le_of_ble_eq_true rfl) rfl dX4_takeLast_29 ?_
        refine rr_aload_n 1 dX4_takeLast_32 rfl ?_
        refine rr_aload_n 0 dX4_takeLast_33 rfl ?_
        refine rr_get fX4_15 0 rfl rfl dX4_takeLast_34 ?_
        refine rr_aload_n 0 dX4_takeLast_37 rfl ?_
        refine rr_get fX4_22 0 rfl rfl dX4_takeLast_38 ?_
        refine rr_aald (b := (u 7)) 1 7 rfl rfl (by omega) (by omega) rfl dX4_takeLast_41 ?_
        refine rr_callFv (ws2 := [(f, ob 4 [.ref ar, .int (zz 7)]), (ar, aH E 8 (fun i => some (u i))), ((u 0), hO (g 0)), ((u 1), hO (g 1)), ((u 2), hO (g 2)), ((u 3), hO (g 3)), ((u 4), hO (g 4)), ((u 5), hO (g 5)), ((u 6), hO (g 6)), ((u 7), hO (g 7)), (a, hO (g 7))]) (wr := [(f, ob 4 [.ref ar, .int (zz 7)]), (ar, aH E 8 (fun i => some (u i))), ((u 0), hO (g 0)), ((u 1), hO (g 1)), ((u 2), hO (g 2)), ((u 3), hO (g 3)), ((u 4), hO (g 4)), ((u 5), hO (g 5)), ((u 6), hO (g 6))]) (call_V (q0 := 0) kX4_33 (c_copy E (d + 0) a (u 7) h (g 7)) rfl rfl rfl rfl (by omega) (by decide) (Nat.le_of_ble_eq_true rfl) (Nat.le_of_ble_eq_true rfl) dX4_takeLast_42) [10, 9] [0, 1, 2, 3, 4, 5, 6, 7, 8] [0, 1, 2, 3, 4, 5, 6, 7, 8, 10, 9] rfl rfl rfl rfl rfl rfl rfl ?_
        refine rr_iconst dX4_takeLast_45 ?_
        exact rr_iret dX4_takeLast_46 rfl rfl ⟨rfl, rfl⟩
      · skip
        exfalso; omega
set_option maxRecDepth 100000 in
set_option maxHeartbeats 4000000 in
theorem c_take8_n (E : Ev) (d : Nat) (f ar a : Nat) (u : Nat → Nat) (g : Nat → Nat → Int) (h : Nat → Int) : SP E mX4_takeLast (d + 1) 0 0 [.ref f, .ref a] [(f, ob 4 [.ref ar, .int (zz 0)]), (ar, aH E 8 (fun i => some (u i))), ((u 0), hO (g 0)), ((u 1), hO (g 1)), ((u 2), hO (g 2)), ((u 3), hO (g 3)), ((u 4), hO (g 4)), ((u 5), hO (g 5)), ((u 6), hO (g 6)), ((u 7), hO (g 7)), (a, hO h)] (FP (some (.int (zz 0))) [(f, ob 4 [.ref ar, .int (zz 0)]), (ar, aH E 8 (fun i => some (u i))), ((u 0), hO (g 0)), ((u 1), hO (g 1)), ((u 2), hO (g 2)), ((u 3), hO (g 3)), ((u 4), hO (g 4)), ((u 5), hO (g 5)), ((u 6), hO (g 6)), ((u 7), hO (g 7)), (a, hO h)]) := by
  show RR E mX4_takeLast (d + 1) 0 0 0 [(0, .ref f), (1, .ref a)] [] [(f, ob 4 [.ref ar, .int (zz 0)]), (ar, aH E 8 (fun i => some (u i))), ((u 0), hO (g 0)), ((u 1), hO (g 1)), ((u 2), hO (g 2)), ((u 3), hO (g 3)), ((u 4), hO (g 4)), ((u 5), hO (g 5)), ((u 6), hO (g 6)), ((u 7), hO (g 7)), (a, hO h)] (FP (some (.int (zz 0))) [(f, ob 4 [.ref ar, .int (zz 0)]), (ar, aH E 8 (fun i => some (u i))), ((u 0), hO (g 0)), ((u 1), hO (g 1)), ((u 2), hO (g 2)), ((u 3), hO (g 3)), ((u 4), hO (g 4)), ((u 5), hO (g 5)), ((u 6), hO (g 6)), ((u 7), hO (g 7)), (a, hO h)])
  refine rr_aload_n 0 dX4_takeLast_0 rfl ?_
  refine rr_get fX4_22 0 rfl rfl dX4_takeLast_1 ?_
  refine rr_iconst dX4_takeLast_4 ?_
  refine rr_icmp_lt 20 dX4_takeLast_5 (by decide) (by omega) (by omega) (fun c_1 => ?_) (fun c_1 => ?_)
  · skip
    refine rr_iconst dX4_takeLast_20 ?_
    exact rr_iret dX4_takeLast_21 rfl rfl ⟨rfl, rfl⟩
  · skip
    exfalso; omega
set_option maxRecDepth 100000 in
set_option maxHeartbeats 4000000 in
theorem c_take2_y (E : Ev) (d : Nat) (f ar a : Nat) (u : Nat → Nat) (g : Nat → Nat → Int) (h : Nat → Int) (sz : Nat) (hs : sz < 2) : SP E mX4_takeLast (d + 1) 0 0 [.ref f, .ref a] [(f, ob 4 [.ref ar, .int (zz (↑(sz + 1)))]), (ar, aH E 2 (fun i => some (u i))), ((u 0), hO (g 0)), ((u 1), hO (g 1)), (a, hO h)] (FP (some (.int (zz 1))) (shW2 E f ar u g sz ++ [(a, hO (g sz))])) := by
  show RR E mX4_takeLast (d + 1) 0 0 0 [(0, .ref f), (1, .ref a)] [] [(f, ob 4 [.ref ar, .int (zz (↑(sz + 1)))]), (ar, aH E 2 (fun i => some (u i))), ((u 0), hO (g 0)), ((u 1), hO (g 1)), (a, hO h)] (FP (some (.int (zz 1))) (shW2 E f ar u g sz ++ [(a, hO (g sz))]))
  rcases (show sz = 0 ∨ sz = 1 by omega) with rfl | rfl
  · skip
    refine RR.eq (ws2 := [(f, ob 4 [.ref ar, .int (zz 1)]), (ar, aH E 2 (fun i => some (u i))), ((u 0), hO (g 0)), ((u 1), hO (g 1)), (a, hO h)]) rfl rfl rfl rfl ?_
    refine rr_aload_n 0 dX4_takeLast_0 rfl ?_
    refine rr_get fX4_22 0 rfl rfl dX4_takeLast_1 ?_
    refine rr_iconst dX4_takeLast_4 ?_
    refine rr_icmp_lt 20 dX4_takeLast_5 (by decide) (by omega) (by omega) (fun c_1 => ?_) (fun c_1 => ?_)
    · skip
      exfalso; omega
    · skip
      refine rr_aload_n 0 dX4_takeLast_8 rfl ?_
      refine rr_get fX4_22 0 rfl rfl dX4_takeLast_9 ?_
      refine rr_aload_n 0 dX4_takeLast_12 rfl ?_
      refine rr_get fX4_15 0 rfl rfl dX4_takeLast_13 ?_
      refine rr_alenH 1 rfl dX4_takeLast_16 ?_
      refine rr_icmp_le 22 dX4_takeLast_17 (by decide) (by omega) (by omega) (fun c_2 => ?_) (fun c_2 => ?_)
      · skip
        refine rr_aload_n 0 dX4_takeLast_22 rfl ?_
        refine rr_dup dX4_takeLast_23 rfl ?_
        refine rr_get fX4_22 0 rfl rfl dX4_takeLast_24 ?_
        refine rr_iconst dX4_takeLast_27 ?_
        refine rr_isub dX4_takeLast_28 ?_
        refine rr_top (b := 0) (by decide) ?_
        refine rr_put (ws2 := [(f, ob 4 [.ref ar, .int (zz 0)]), (ar, aH E 2 (fun i => some (u i))), ((u 0), hO (g 0)), ((u 1), hO (g 1)), (a, hO h)]) fX4_22 0 rfl rfl rfl (Nat.le_of_ble_eq_true rfl) rfl dX4_takeLast_29 ?_
        refine rr_aload_n 1 dX4_takeLast_32 rfl ?_
        refine rr_aload_n 0 dX4_takeLast_33 rfl ?_
        refine rr_get fX4_15 0 rfl rfl dX4_takeLast_34 ?_
        refine rr_aload_n 0 dX4_takeLast_37 rfl ?_
        refine rr_get fX4_22 0 rfl rfl dX4_takeLast_38 ?_
        refine rr_aald (b := (u 0)) 1 0 rfl rfl (by omega) (by omega) rfl dX4_takeLast_41 ?_
        refine rr_callFv (ws2 := [(f, ob 4 [.ref ar, .int (zz 0)]), (ar, aH E 2 (fun i => some (u i))), ((u 0), hO (g 0)), ((u 1), hO (g 1)), (a, hO (g 0))]) (wr := [(f, ob 4 [.ref ar, .int (zz 0)]), (ar, aH E 2 (fun i => some (u i))), ((u 1), hO (g 1))]) (call_V (q0 := 0) kX4_33 (c_copy E (d + 0) a (u 0) h (g 0)) rfl rfl rfl rfl (by omega) (by decide) (Nat.le_of_ble_eq_true rfl) (Nat.le_of_ble_eq_true rfl) dX4_takeLast_42) [4, 2] [0, 1, 3] [0, 1, 4, 2, 3] rfl rfl rfl rfl rfl rfl rfl ?_
        refine rr_iconst dX4_takeLast_45 ?_
        exact rr_iret dX4_takeLast_46 rfl rfl ⟨rfl, rfl⟩
      · skip
        exfalso; omega
  · skip
    refine RR.eq (ws2 := [(f, ob 4 [.ref ar, .int (zz 2)]), (ar, aH E 2 (fun i => some (u i))), ((u 0), hO (g 0)), ((u 1), hO (g 1)), (a, hO h)]) rfl rfl rfl rfl ?_
    refine rr_aload_n 0 dX4_takeLast_0 rfl ?_
    refine rr_get fX4_22 0 rfl rfl dX4_takeLast_1 ?_
    refine rr_iconst dX4_takeLast_4 ?_
    refine rr_icmp_lt 20 dX4_takeLast_5 (by decide) (by omega) (by omega) (fun c_3 => ?_) (fun c_3 => ?_)
    · skip
      exfalso; omega
    · skip
      refine rr_aload_n 0 dX4_takeLast_8 rfl ?_
      refine rr_get fX4_22 0 rfl rfl dX4_takeLast_9 ?_
      refine rr_aload_n 0 dX4_takeLast_12 rfl ?_
      refine rr_get fX4_15 0 rfl rfl dX4_takeLast_13 ?_
      refine rr_alenH 1 rfl dX4_takeLast_16 ?_
      refine rr_icmp_le 22 dX4_takeLast_17 (by decide) (by omega) (by omega) (fun c_4 => ?_) (fun c_4 => ?_)
      · skip
        refine rr_aload_n 0 dX4_takeLast_22 rfl ?_
        refine rr_dup dX4_takeLast_23 rfl ?_
        refine rr_get fX4_22 0 rfl rfl dX4_takeLast_24 ?_
        refine rr_iconst dX4_takeLast_27 ?_
        refine rr_isub dX4_takeLast_28 ?_
        refine rr_top (b := 1) (by decide) ?_
        refine rr_put (ws2 := [(f, ob 4 [.ref ar, .int (zz 1)]), (ar, aH E 2 (fun i => some (u i))), ((u 0), hO (g 0)), ((u 1), hO (g 1)), (a, hO h)]) fX4_22 0 rfl rfl rfl (Nat.le_of_ble_eq_true rfl) rfl dX4_takeLast_29 ?_
        refine rr_aload_n 1 dX4_takeLast_32 rfl ?_
        refine rr_aload_n 0 dX4_takeLast_33 rfl ?_
        refine rr_get fX4_15 0 rfl rfl dX4_takeLast_34 ?_
        refine rr_aload_n 0 dX4_takeLast_37 rfl ?_
        refine rr_get fX4_22 0 rfl rfl dX4_takeLast_38 ?_
        refine rr_aald (b := (u 1)) 1 1 rfl rfl (by omega) (by omega) rfl dX4_takeLast_41 ?_
        refine rr_callFv (ws2 := [(f, ob 4 [.ref ar, .int (zz 1)]), (ar, aH E 2 (fun i => some (u i))), ((u 0), hO (g 0)), ((u 1), hO (g 1)), (a, hO (g 1))]) (wr := [(f, ob 4 [.ref ar, .int (zz 1)]), (ar, aH E 2 (fun i => some (u i))), ((u 0), hO (g 0))]) (call_V (q0 := 0) kX4_33 (c_copy E (d + 0) a (u 1) h (g 1)) rfl rfl rfl rfl (by omega) (by decide) (Nat.le_of_ble_eq_true rfl) (Nat.le_of_ble_eq_true rfl) dX4_takeLast_42) [4, 3] [0, 1, 2] [0, 1, 2, 4, 3] rfl rfl rfl rfl rfl rfl rfl ?_
        refine rr_iconst dX4_takeLast_45 ?_
        exact rr_iret dX4_takeLast_46 rfl rfl ⟨rfl, rfl⟩
      · skip
        exfalso; omega
set_option maxRecDepth 100000 in
set_option maxHeartbeats 4000000 in
theorem c_take2_n (E : Ev) (d : Nat) (f ar a : Nat) (u : Nat → Nat) (g : Nat → Nat → Int) (h : Nat → Int) : SP E mX4_takeLast (d + 1) 0 0 [.ref f, .ref a] [(f, ob 4 [.ref ar, .int (zz 0)]), (ar, aH E 2 (fun i => some (u i))), ((u 0), hO (g 0)), ((u 1), hO (g 1)), (a, hO h)] (FP (some (.int (zz 0))) [(f, ob 4 [.ref ar, .int (zz 0)]), (ar, aH E 2 (fun i => some (u i))), ((u 0), hO (g 0)), ((u 1), hO (g 1)), (a, hO h)]) := by
  show RR E mX4_takeLast (d + 1) 0 0 0 [(0, .ref f), (1, .ref a)] [] [(f, ob 4 [.ref ar, .int (zz 0)]), (ar, aH E 2 (fun i => some (u i))), ((u 0), hO (g 0)), ((u 1), hO (g 1)), (a, hO h)] (FP (some (.int (zz 0))) [(f, ob 4 [.ref ar, .int (zz 0)]), (ar, aH E 2 (fun i => some (u i))), ((u 0), hO (g 0)), ((u 1), hO (g 1)), (a, hO h)])
  refine rr_aload_n 0 dX4_takeLast_0 rfl ?_
  refine rr_get fX4_22 0 rfl rfl dX4_takeLast_1 ?_
  refine rr_iconst dX4_takeLast_4 ?_
  refine rr_icmp_lt 20 dX4_takeLast_5 (by decide) (by omega) (by omega) (fun c_1 => ?_) (fun c_1 => ?_)
  · skip
    refine rr_iconst dX4_takeLast_20 ?_
    exact rr_iret dX4_takeLast_21 rfl rfl ⟨rfl, rfl⟩
  · skip
    exfalso; omega
set_option maxRecDepth 100000 in
set_option maxHeartbeats 4000000 in
theorem c_seen_y (E : Ev) (d : Nat) (q qp qc qv ns : Nat) (sp sc sv : Nat → Int) (p c v : Int) (hs : ns < 6) : SP E mX5_add (d + 0) 0 0 [.ref q, .int (zz p), .int (zz c), .int (zz v)] [(q, ob 5 [.ref qp, .ref qc, .ref qv, .int (zz ↑ns)]), (qp, aI E 6 sp), (qc, aI E 6 sc), (qv, aI E 6 sv)] (FP (some (.int (zz 1))) [(q, ob 5 [.ref qp, .ref qc, .ref qv, .int (zz (↑(ns + 1)))]), (qp, aI E 6 (updI sp ns p)), (qc, aI E 6 (updI sc ns c)), (qv, aI E 6 (updI sv ns v))]) := by
  show RR E mX5_add (d + 0) 0 0 0 [(0, .ref q), (1, .int (zz p)), (2, .int (zz c)), (3, .int (zz v))] [] [(q, ob 5 [.ref qp, .ref qc, .ref qv, .int (zz ↑ns)]), (qp, aI E 6 sp), (qc, aI E 6 sc), (qv, aI E 6 sv)] (FP (some (.int (zz 1))) [(q, ob 5 [.ref qp, .ref qc, .ref qv, .int (zz (↑(ns + 1)))]), (qp, aI E 6 (updI sp ns p)), (qc, aI E 6 (updI sc ns c)), (qv, aI E 6 (updI sv ns v))])
  refine rr_aload_n 0 dX5_add_0 rfl ?_
  refine rr_get fX5_21 0 rfl rfl dX5_add_1 ?_
  refine rr_bipush dX5_add_4 (by decide) ?_
  refine rr_icmp_lt 11 dX5_add_6 (by decide) (by omega) (by omega) (fun c_1 => ?_) (fun c_1 => ?_)
  · skip
    refine rr_aload_n 0 dX5_add_11 rfl ?_
    refine rr_get fX5_9 0 rfl rfl dX5_add_12 ?_
    refine rr_aload_n 0 dX5_add_15 rfl ?_
    refine rr_get fX5_21 0 rfl rfl dX5_add_16 ?_
    refine rr_iload_n 1 dX5_add_19 rfl ?_
    refine rr_iast (ws2 := [(q, ob 5 [.ref qp, .ref qc, .ref qv, .int (zz ↑ns)]), (qp, aI E 6 (updI sp ns p)), (qc, aI E 6 sc), (qv, aI E 6 sv)]) 1 ns rfl rfl (by omega) (by omega) rfl dX5_add_20 ?_
    refine rr_aload_n 0 dX5_add_21 rfl ?_
    refine rr_get fX5_15 0 rfl rfl dX5_add_22 ?_
    refine rr_aload_n 0 dX5_add_25 rfl ?_
    refine rr_get fX5_21 0 rfl rfl dX5_add_26 ?_
    refine rr_iload_n 2 dX5_add_29 rfl ?_
    refine rr_iast (ws2 := [(q, ob 5 [.ref qp, .ref qc, .ref qv, .int (zz ↑ns)]), (qp, aI E 6 (updI sp ns p)), (qc, aI E 6 (updI sc ns c)), (qv, aI E 6 sv)]) 2 ns rfl rfl (by omega) (by omega) rfl dX5_add_30 ?_
    refine rr_aload_n 0 dX5_add_31 rfl ?_
    refine rr_get fX5_18 0 rfl rfl dX5_add_32 ?_
    refine rr_aload_n 0 dX5_add_35 rfl ?_
    refine rr_get fX5_21 0 rfl rfl dX5_add_36 ?_
    refine rr_iload_n 3 dX5_add_39 rfl ?_
    refine rr_iast (ws2 := [(q, ob 5 [.ref qp, .ref qc, .ref qv, .int (zz ↑ns)]), (qp, aI E 6 (updI sp ns p)), (qc, aI E 6 (updI sc ns c)), (qv, aI E 6 (updI sv ns v))]) 3 ns rfl rfl (by omega) (by omega) rfl dX5_add_40 ?_
    refine rr_aload_n 0 dX5_add_41 rfl ?_
    refine rr_dup dX5_add_42 rfl ?_
    refine rr_get fX5_21 0 rfl rfl dX5_add_43 ?_
    refine rr_iconst dX5_add_46 ?_
    refine rr_iadd dX5_add_47 ?_
    refine rr_put (ws2 := [(q, ob 5 [.ref qp, .ref qc, .ref qv, .int (zz (↑(ns + 1)))]), (qp, aI E 6 (updI sp ns p)), (qc, aI E 6 (updI sc ns c)), (qv, aI E 6 (updI sv ns v))]) fX5_21 0 rfl rfl rfl (Nat.le_of_ble_eq_true rfl) rfl dX5_add_48 ?_
    refine rr_iconst dX5_add_51 ?_
    exact rr_iret dX5_add_52 rfl rfl ⟨rfl, rfl⟩
  · skip
    exfalso; omega
set_option maxRecDepth 100000 in
set_option maxHeartbeats 4000000 in
theorem c_seen_n (E : Ev) (d : Nat) (q qp qc qv ns : Nat) (sp sc sv : Nat → Int) (p c v : Int) (hs : ns = 6) : SP E mX5_add (d + 0) 0 0 [.ref q, .int (zz p), .int (zz c), .int (zz v)] [(q, ob 5 [.ref qp, .ref qc, .ref qv, .int (zz ↑ns)]), (qp, aI E 6 sp), (qc, aI E 6 sc), (qv, aI E 6 sv)] (FP (some (.int (zz 0))) [(q, ob 5 [.ref qp, .ref qc, .ref qv, .int (zz ↑ns)]), (qp, aI E 6 sp), (qc, aI E 6 sc), (qv, aI E 6 sv)]) := by
  show RR E mX5_add (d + 0) 0 0 0 [(0, .ref q), (1, .int (zz p)), (2, .int (zz c)), (3, .int (zz v))] [] [(q, ob 5 [.ref qp, .ref qc, .ref qv, .int (zz ↑ns)]), (qp, aI E 6 sp), (qc, aI E 6 sc), (qv, aI E 6 sv)] (FP (some (.int (zz 0))) [(q, ob 5 [.ref qp, .ref qc, .ref qv, .int (zz ↑ns)]), (qp, aI E 6 sp), (qc, aI E 6 sc), (qv, aI E 6 sv)])
  refine rr_aload_n 0 dX5_add_0 rfl ?_
  refine rr_get fX5_21 0 rfl rfl dX5_add_1 ?_
  refine rr_bipush dX5_add_4 (by decide) ?_
  refine rr_icmp_lt 11 dX5_add_6 (by decide) (by omega) (by omega) (fun c_1 => ?_) (fun c_1 => ?_)
  · skip
    exfalso; omega
  · skip
    refine rr_iconst dX5_add_9 ?_
    exact rr_iret dX5_add_10 rfl rfl ⟨rfl, rfl⟩
set_option maxRecDepth 100000 in
set_option maxHeartbeats 4000000 in
theorem c_allow (E : Ev) (d : Nat) (q qp qc qv ns : Nat) (sp sc sv : Nat → Int) (p k u : Int) (hs : sOK ns sp sc sv) (hp : 0 ≤ p ∧ p < 7) (hk : 0 ≤ k ∧ k ≤ 3) (hu : 0 ≤ u ∧ u ≤ 9) : SP E mX5_allow (d + 1) 0 0 [.ref q, .int (zz p), .int (zz k), .int (zz u)] [(q, ob 5 [.ref qp, .ref qc, .ref qv, .int (zz ↑ns)]), (qp, aI E 6 sp), (qc, aI E 6 sc), (qv, aI E 6 sv)] (FP (some (.int (zz (bI (!anyTo (notF sp sc sv p k u) ns))))) [(q, ob 5 [.ref qp, .ref qc, .ref qv, .int (zz ↑ns)]), (qp, aI E 6 sp), (qc, aI E 6 sc), (qv, aI E 6 sv)]) := by
  show RR E mX5_allow (d + 1) 0 0 0 [(0, .ref q), (1, .int (zz p)), (2, .int (zz k)), (3, .int (zz u))] [] [(q, ob 5 [.ref qp, .ref qc, .ref qv, .int (zz ↑ns)]), (qp, aI E 6 sp), (qc, aI E 6 sc), (qv, aI E 6 sv)] (FP (some (.int (zz (bI (!anyTo (notF sp sc sv p k u) ns))))) [(q, ob 5 [.ref qp, .ref qc, .ref qv, .int (zz ↑ns)]), (qp, aI E 6 sp), (qc, aI E 6 sc), (qv, aI E 6 sv)])
  have hn := hs.1
  have lp : ∀ (n i : Nat), i ≤ ns → ns < i + n → (∀ j, j < i → (notF sp sc sv p k u) j = false) → RR E mX5_allow (d + 1) 0 0 3 [(0, .ref q), (1, .int (zz p)), (2, .int (zz k)), (3, .int (zz u)), (4, .int (zz ↑i))] [] [(q, ob 5 [.ref qp, .ref qc, .ref qv, .int (zz ↑ns)]), (qp, aI E 6 sp), (qc, aI E 6 sc), (qv, aI E 6 sv)] (FP (some (.int (zz (bI (!anyTo (notF sp sc sv p k u) ns))))) [(q, ob 5 [.ref qp, .ref qc, .ref qv, .int (zz ↑ns)]), (qp, aI E 6 sp), (qc, aI E 6 sc), (qv, aI E 6 sv)]) := by
    intro n
    induction n with
    | zero => intro i h1 h2; exfalso; omega
    | succ n ih =>
      intro i h1 h2 h3
      refine rr_iload 4 dX5_allow_3 rfl ?_
      refine rr_aload_n 0 dX5_allow_5 rfl ?_
      refine rr_get fX5_21 0 rfl rfl dX5_allow_6 ?_
      refine rr_icmp_ge 55 dX5_allow_9 (by decide) (by omega) (by omega) (fun c_1 => ?_) (fun c_1 => ?_)
      · skip
        refine rr_iconst dX5_allow_55 ?_
        exact rr_iret dX5_allow_56 rfl rfl ⟨congrArg (fun z => some (Value.int (zz z))) (by rw [anyTo_no (fun j hj => h3 j (by omega))]; rfl), rfl⟩
      · skip
        refine rr_aload_n 0 dX5_allow_12 rfl ?_
        refine rr_get fX5_9 0 rfl rfl dX5_allow_13 ?_
        refine rr_iload 4 dX5_allow_16 rfl ?_
        refine rr_iald 1 i rfl rfl (by omega) (by omega) dX5_allow_18 ?_
        refine rr_iload_n 1 dX5_allow_19 rfl ?_
        refine rr_icmp_ne 49 dX5_allow_20 (by decide) (by obtain ⟨a1, a2, a3⟩ := hs.2 i (by omega); omega) (by obtain ⟨a1, a2, a3⟩ := hs.2 i (by omega); omega) (fun c_2 => ?_) (fun c_2 => ?_)
        · skip
          refine rr_iinc (lv2 := [(0, .ref q), (1, .int (zz p)), (2, .int (zz k)), (3, .int (zz u)), (4, .int (zz (↑(i + 1))))]) 4 dX5_allow_49 rfl (by decide) rfl ?_
          refine rr_goto 3 dX5_allow_52 (by decide) ?_
          exact ih (i + 1) (by omega) (by omega) (fun j hj => by rcases Nat.lt_or_ge j i with z | z; exact h3 j z; rw [show j = i by omega]; unfold notF; simp only [decide_eq_false_iff_not]; omega)
        · skip
          refine rr_iload_n 2 dX5_allow_23 rfl ?_
          refine rr_iload_n 3 dX5_allow_24 rfl ?_
          refine rr_aload_n 0 dX5_allow_25 rfl ?_
          refine rr_get fX5_15 0 rfl rfl dX5_allow_26 ?_
          refine rr_iload 4 dX5_allow_29 rfl ?_
          refine rr_iald 2 i rfl rfl (by omega) (by omega) dX5_allow_31 ?_
          refine rr_iconst dX5_allow_32 ?_
          refine rr_iconst dX5_allow_33 ?_
          refine rr_callFi (ws2 := [(q, ob 5 [.ref qp, .ref qc, .ref qv, .int (zz ↑ns)]), (qp, aI E 6 sp), (qc, aI E 6 sc), (qv, aI E 6 sv)]) (wr := [(q, ob 5 [.ref qp, .ref qc, .ref qv, .int (zz ↑ns)]), (qp, aI E 6 sp), (qc, aI E 6 sc), (qv, aI E 6 sv)]) (call_SN kX5_25 (c_liftBy E (d + 0) k u (sc i) 1 false (by omega) (by omega) (by obtain ⟨a1, a2, a3⟩ := hs.2 i (by omega); omega) (by omega)) rfl (by omega) (by decide) (Nat.le_of_ble_eq_true rfl) (Nat.le_of_ble_eq_true rfl) dX5_allow_34) [] [0, 1, 2, 3] [0, 1, 2, 3] rfl rfl rfl rfl rfl rfl rfl ?_
          refine rr_aload_n 0 dX5_allow_37 rfl ?_
          refine rr_get fX5_18 0 rfl rfl dX5_allow_38 ?_
          refine rr_iload 4 dX5_allow_41 rfl ?_
          refine rr_iald 3 i rfl rfl (by omega) (by omega) dX5_allow_43 ?_
          refine rr_icmp_eq 49 dX5_allow_44 (by decide) (by obtain ⟨a1, a2, a3⟩ := hs.2 i (by omega); have := liftF_rg (k := k) (c := sc i) (b := false) (r := 1) hu; omega) (by obtain ⟨a1, a2, a3⟩ := hs.2 i (by omega); have := liftF_rg (k := k) (c := sc i) (b := false) (r := 1) hu; omega) (fun c_3 => ?_) (fun c_3 => ?_)
          · skip
            refine rr_iinc (lv2 := [(0, .ref q), (1, .int (zz p)), (2, .int (zz k)), (3, .int (zz u)), (4, .int (zz (↑(i + 1))))]) 4 dX5_allow_49 rfl (by decide) rfl ?_
            refine rr_goto 3 dX5_allow_52 (by decide) ?_
            exact ih (i + 1) (by omega) (by omega) (fun j hj => by rcases Nat.lt_or_ge j i with z | z; exact h3 j z; rw [show j = i by omega]; unfold notF; simp only [decide_eq_false_iff_not]; omega)
          · skip
            refine rr_iconst dX5_allow_47 ?_
            exact rr_iret dX5_allow_48 rfl rfl ⟨congrArg (fun z => some (Value.int (zz z))) (by rw [anyTo_yes (k := i) (by unfold notF; simp only [decide_eq_true_eq]; omega) (by omega)]; rfl), rfl⟩
  refine rr_iconst dX5_allow_0 ?_
  refine rr_istore (lv2 := [(0, .ref q), (1, .int (zz p)), (2, .int (zz k)), (3, .int (zz u)), (4, .int (zz 0))]) dX5_allow_1 (by decide) rfl ?_
  exact lp (ns + 1) 0 (by omega) (by omega) (fun j hj => absurd hj (Nat.not_lt_zero j))
