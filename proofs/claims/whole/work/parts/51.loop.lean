/-! ===== the law's loop ===== -/
set_option maxRecDepth 100000 in
set_option maxHeartbeats 1000000 in
theorem law_loop {E : Ev} {x m kc ks : Nat} {post : Option Value → va_W → Prop} (hL : eL E ≤ 256) (hpost : ∀ ws : va_W, post (some (.int (zz 1))) ws) : ∀ (n i : Nat) (ws : va_W), i ≤ eL E → eL E < i + 4 * n → INV E x m ws → RR E mL_law 20 kc ks 18 [(0, .ref (eB E)), (1, .ref x), (2, .ref m), (3, .int (zz (i : Int)))] [] ws post := by
  intro n
  induction n with
  | zero => intro i ws h1 h2; exfalso; omega
  | succ n ih =>
    intro i ws h1 h2 hJ
    refine rr_iload_n 3 dL_law_18 rfl ?_
    refine rr_aload_n 0 dL_law_19 rfl ?_
    refine rr_slen dL_law_20 ?_
    refine rr_iconst dL_law_21 ?_
    refine rr_isub dL_law_22 ?_
    refine rr_icmp_gt 803 dL_law_23 (by decide) (by omega) (by omega) (fun c1 => ?_) (fun c1 => ?_)
    · refine rr_iconst dL_law_803 ?_
      exact rr_iret dL_law_804 rfl rfl (hpost ws)
    · have hi : i + 4 ≤ eL E := by omega
      have K : ∀ ws2 : va_W, INV E x m ws2 → RR E mL_law 20 kc ks 797 [(0, .ref (eB E)), (1, .ref x), (2, .ref m), (3, .int (zz (i : Int)))] [] ws2 post := by
        intro ws2 hJ2
        refine rr_iinc (lv2 := [(0, .ref (eB E)), (1, .ref x), (2, .ref m), (3, .int (zz ((i + 4 : Nat) : Int)))]) 3 dL_law_797 rfl (by decide) rfl ?_
        refine rr_goto 18 dL_law_800 (by decide) ?_
        exact ih (i + 4) ws2 (by omega) (by omega) hJ2
      obtain ⟨y0, g0, ey0⟩ := zz_of (eX E i)
      refine rr_aload_n 0 dL_law_26 rfl ?_
      refine rr_iload_n 3 dL_law_27 rfl ?_
      refine rr_sldZ (y := y0) i rfl (by omega) (by omega) ey0 dL_law_28 ?_
      refine rr_bipush dL_law_29 (by decide) ?_
      refine rr_iand (r := y0 % 32) 5 dL_law_31 (by decide) (by decide +kernel) rfl ?_
      by_cases s_0 : y0 % 32 = 0
      · refine rr_tswIn (off := 124) 156 dL_law_32 (by omega) (by omega) (by omega) (by rw [s_0]; rfl) (by decide) ?_
        exact lw_write hL hi hJ K
      by_cases s_1 : y0 % 32 = 1
      · refine rr_tswIn (off := 147) 179 dL_law_32 (by omega) (by omega) (by omega) (by rw [s_1]; rfl) (by decide) ?_
        exact lw_wipe hL hi hJ K
      by_cases s_2 : y0 % 32 = 2
      · refine rr_tswIn (off := 160) 192 dL_law_32 (by omega) (by omega) (by omega) (by rw [s_2]; rfl) (by decide) ?_
        exact lw_fault hL hi hJ K
      by_cases s_3 : y0 % 32 = 3
      · refine rr_tswIn (off := 173) 205 dL_law_32 (by omega) (by omega) (by omega) (by rw [s_3]; rfl) (by decide) ?_
        exact lw_lay hL hi hJ K
      by_cases s_4 : y0 % 32 = 4
      · refine rr_tswIn (off := 186) 218 dL_law_32 (by omega) (by omega) (by omega) (by rw [s_4]; rfl) (by decide) ?_
        exact lw_peg hL hi hJ K
      by_cases s_5 : y0 % 32 = 5
      · refine rr_tswIn (off := 219) 251 dL_law_32 (by omega) (by omega) (by omega) (by rw [s_5]; rfl) (by decide) ?_
        exact lw_wind hL hi hJ K
      by_cases s_6 : y0 % 32 = 6
      · refine rr_tswIn (off := 242) 274 dL_law_32 (by omega) (by omega) (by omega) (by rw [s_6]; rfl) (by decide) ?_
        exact lw_roof hL hi hJ K
      by_cases s_7 : y0 % 32 = 7
      · refine rr_tswIn (off := 275) 307 dL_law_32 (by omega) (by omega) (by omega) (by rw [s_7]; rfl) (by decide) ?_
        exact lw_turn hL hi hJ K
      by_cases s_8 : y0 % 32 = 8
      · refine rr_tswIn (off := 298) 330 dL_law_32 (by omega) (by omega) (by omega) (by rw [s_8]; rfl) (by decide) ?_
        exact lw_flyOn hL hi hJ K
      by_cases s_9 : y0 % 32 = 9
      · refine rr_tswIn (off := 311) 343 dL_law_32 (by omega) (by omega) (by omega) (by rw [s_9]; rfl) (by decide) ?_
        exact lw_setDown hL hi hJ K
      by_cases s_10 : y0 % 32 = 10
      · refine rr_tswIn (off := 324) 356 dL_law_32 (by omega) (by omega) (by omega) (by rw [s_10]; rfl) (by decide) ?_
        exact lw_undo hL hi hJ K
      by_cases s_11 : y0 % 32 = 11
      · refine rr_tswIn (off := 337) 369 dL_law_32 (by omega) (by omega) (by omega) (by rw [s_11]; rfl) (by decide) ?_
        exact lw_now hL hi hJ K
      by_cases s_12 : y0 % 32 = 12
      · refine rr_tswIn (off := 360) 392 dL_law_32 (by omega) (by omega) (by omega) (by rw [s_12]; rfl) (by decide) ?_
        exact lw_safe hL hi hJ K
      by_cases s_13 : y0 % 32 = 13
      · refine rr_tswIn (off := 373) 405 dL_law_32 (by omega) (by omega) (by omega) (by rw [s_13]; rfl) (by decide) ?_
        exact lw_way hL hi hJ K
      by_cases s_14 : y0 % 32 = 14
      · refine rr_tswIn (off := 406) 438 dL_law_32 (by omega) (by omega) (by omega) (by rw [s_14]; rfl) (by decide) ?_
        exact lw_near hL hi hJ K
      by_cases s_15 : y0 % 32 = 15
      · refine rr_tswIn (off := 429) 461 dL_law_32 (by omega) (by omega) (by omega) (by rw [s_15]; rfl) (by decide) ?_
        exact lw_undoes hL hi hJ K
      by_cases s_16 : y0 % 32 = 16
      · refine rr_tswIn (off := 452) 484 dL_law_32 (by omega) (by omega) (by omega) (by rw [s_16]; rfl) (by decide) ?_
        exact lw_either hL hi hJ K
      by_cases s_17 : y0 % 32 = 17
      · refine rr_tswIn (off := 485) 517 dL_law_32 (by omega) (by omega) (by omega) (by rw [s_17]; rfl) (by decide) ?_
        exact lw_drift hL hi hJ K
      by_cases s_18 : y0 % 32 = 18
      · refine rr_tswIn (off := 508) 540 dL_law_32 (by omega) (by omega) (by omega) (by rw [s_18]; rfl) (by decide) ?_
        exact lw_seen hL hi hJ K
      by_cases s_19 : y0 % 32 = 19
      · refine rr_tswIn (off := 551) 583 dL_law_32 (by omega) (by omega) (by omega) (by rw [s_19]; rfl) (by decide) ?_
        exact lw_forget hL hi hJ K
      by_cases s_20 : y0 % 32 = 20
      · refine rr_tswIn (off := 564) 596 dL_law_32 (by omega) (by omega) (by omega) (by rw [s_20]; rfl) (by decide) ?_
        exact lw_may hL hi hJ K
      by_cases s_21 : y0 % 32 = 21
      · refine rr_tswIn (off := 597) 629 dL_law_32 (by omega) (by omega) (by omega) (by rw [s_21]; rfl) (by decide) ?_
        exact lw_which hL hi hJ K
      by_cases s_22 : y0 % 32 = 22
      · refine rr_tswIn (off := 640) 672 dL_law_32 (by omega) (by omega) (by omega) (by rw [s_22]; rfl) (by decide) ?_
        exact lw_likely hL hi hJ K
      by_cases s_23 : y0 % 32 = 23
      · refine rr_tswIn (off := 673) 705 dL_law_32 (by omega) (by omega) (by omega) (by rw [s_23]; rfl) (by decide) ?_
        exact lw_flight hL hi hJ K
      by_cases s_24 : y0 % 32 = 24
      · refine rr_tswIn (off := 716) 748 dL_law_32 (by omega) (by omega) (by omega) (by rw [s_24]; rfl) (by decide) ?_
        exact lw_keep hL hi hJ K
      by_cases s_25 : y0 % 32 = 25
      · refine rr_tswIn (off := 729) 761 dL_law_32 (by omega) (by omega) (by omega) (by rw [s_25]; rfl) (by decide) ?_
        exact lw_back hL hi hJ K
      by_cases s_26 : y0 % 32 = 26
      · refine rr_tswIn (off := 742) 774 dL_law_32 (by omega) (by omega) (by omega) (by rw [s_26]; rfl) (by decide) ?_
        exact lw_count hL hi hJ K
      refine rr_tswOut 797 dL_law_32 (by omega) (by omega) (by decide) ?_
      exact K ws hJ
set_option maxRecDepth 100000 in
set_option maxHeartbeats 1000000 in
theorem law_body {E : Ev} (hL : eL E ≤ 256) : RR E mL_law 20 600000 7302250 0 [(0, .ref (eB E))] [] [] (fun v _ => v = some (.int 1)) := by
  refine rr_new nL_7 (by decide) (by decide) dL_law_0 (fun x => ?_)
  refine rr_dup dL_law_3 rfl ?_
  refine rr_callP (wr := []) (call_I kL_9 (c_init E 13 x) rfl (by omega) (by decide) (Nat.le_of_ble_eq_true rfl) (Nat.le_of_ble_eq_true rfl) dL_law_4) (List.Perm.refl _) (by decide) (by decide) (fun v w1 hp1 => ?_)
  obtain ⟨rfl, hC⟩ := hp1
  refine RR.eq (st2 := [.ref x]) (ws2 := w1) rfl rfl rfl (List.append_nil w1) ?_
  refine rr_astore_n (lv2 := [(0, .ref (eB E)), (1, .ref x)]) dL_law_7 (by decide) rfl ?_
  refine rr_new nL_10 (by decide) (by decide) dL_law_8 (fun m => ?_)
  refine rr_dup dL_law_11 rfl ?_
  refine rr_callP (wr := w1) (call_I kL_12 (c_Minit E 17 m) rfl (by omega) (by decide) (Nat.le_of_ble_eq_true rfl) (Nat.le_of_ble_eq_true rfl) dL_law_12) List.perm_append_comm (by decide) (by decide) (fun v w2 hp2 => ?_)
  obtain ⟨rfl, tx2, pg, wn, ro, bg, st, was, kp, sn, hPM, hst, hM⟩ := hp2
  refine RR.perm (ws2 := w1 ++ w2) List.perm_append_comm ?_
  refine RR.eq (st2 := [.ref m]) rfl rfl rfl rfl ?_
  refine rr_astore_n (lv2 := [(0, .ref (eB E)), (1, .ref x), (2, .ref m)]) dL_law_15 (by decide) rfl ?_
  refine rr_iconst dL_law_16 ?_
  refine rr_istore_n (lv2 := [(0, .ref (eB E)), (1, .ref x), (2, .ref m), (3, .int (zz ((0 : Nat) : Int)))]) dL_law_17 (by decide) rfl ?_
  exact law_loop hL (fun _ => rfl) 65 0 _ (Nat.zero_le _) (by omega) (INV_mk E x m 0 (txI 82) PF.1 PF.2.1 PF.2.2.1 PF.2.2.2.1 PF.2.2.2.2.1 PF.2.2.2.2.2.1 PF.2.2.2.2.2.2.1 PF.2.2.2.2.2.2.2.1 PF.2.2.2.2.2.2.2.2 PF.2.2.2.2.2.2.2.2 0 (fun _ => hZ) 0 (fun _ => hZ) 0 zF zF zF tx2 pg wn ro bg st was kp sn (⟨Nat.zero_le _, fun j hj => absurd hj (Nat.not_lt_zero j)⟩) GP_first.1 GP_first.2.1 GP_first.2.2.1 GP_first.2.2.2.1 GP_first.2.2.2.2 (show 1 ≤ 5 by omega) GP_first.2.2.1 (Or.inl GP_first.2.2.2.2) (Nat.zero_le _) (fun j hj => absurd hj (Nat.not_lt_zero j)) (Nat.zero_le _) (fun j hj => absurd hj (Nat.not_lt_zero j)) (⟨Nat.zero_le _, fun j hj => absurd hj (Nat.not_lt_zero j)⟩) (fun j hj => absurd hj (Nat.not_lt_zero j)) hPM.2.2.1 hPM.2.2.2.1 hPM.2.2.2.2 (hst.trans hPM.2.2.2.2) (fun j hj => absurd hj (Nat.not_lt_zero j)) (fun j hj => absurd hj (Nat.not_lt_zero j)) (fun j hj => absurd hj (Nat.not_lt_zero j)) hC hM)
