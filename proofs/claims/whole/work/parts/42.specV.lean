/-! ===== one text, read by the class and by the reference ===== -/
def GP (P : PSt) : Prop := pOK P.1 P.2.1 P.2.2.1 P.2.2.2.1 P.2.2.2.2.1 ∧ rOK P.2.2.2.2.2.1 P.2.2.2.2.2.2.1 P.2.2.2.2.2.2.2.1 ∧ hOK P.2.2.2.2.2.2.2.2 ∧ P.2.2.2.2.2.2.2.2 4 = 0 ∧ P.2.2.2.2.2.2.2.2 6 = -4
def PM (P : PSt) (M : MSt) : Prop := M.1 = P.1 ∧ M.2.2.2.1 = P.2.2.2.2.2.1 ∧ PL P.1 P.2.1 P.2.2.1 P.2.2.2.1 P.2.2.2.2.1 M.2.1 M.2.2.1 ∧ RoL P.2.2.2.2.2.1 P.2.2.2.2.2.2.1 P.2.2.2.2.2.2.2.1 M.2.2.2.2.1 ∧ AG 7 M.2.2.2.2.2 (amF P.2.2.2.2.2.2.2.2)
section ADD
variable {np nr : Nat} {kd lf qt wd rx ry pg wn ro bg s : Nat → Int} {a b c e : Int}
theorem pOK_add (h : pOK np kd lf qt wd) (hn : np < 7) (ha : 0 ≤ a ∧ a ≤ 3) (hb : 0 ≤ b ∧ b ≤ 9) (hc : 0 ≤ c ∧ c ≤ 3) : pOK (np + 1) (updI kd np a) (updI lf np b) (updI qt np c) wd := by
  refine ⟨by omega, fun k hk => ?_, h.2.2⟩
  by_cases e : k = np
  · subst e
    rw [updI_eq, updI_eq, updI_eq]
    exact ⟨ha, hb, hc⟩
  · rw [updI_ne e, updI_ne e, updI_ne e]
    exact h.2.1 k (by omega)
theorem PL_add (h : PL np kd lf qt wd pg wn) : PL (np + 1) (updI kd np a) (updI lf np b) (updI qt np c) wd (updI (updI (updI pg (3 * np) a) (3 * np + 1) b) (3 * np + 2) c) wn := by
  refine ⟨fun k hk => ?_, h.2⟩
  by_cases e : k = np
  · subst e
    rw [updI_eq, updI_eq, updI_eq, updI_eq]
    rw [updI_ne (by omega), updI_ne (by omega), updI_eq, updI_ne (by omega), updI_eq]
    exact ⟨rfl, rfl, rfl⟩
  · rw [updI_ne e, updI_ne e, updI_ne e]
    rw [updI_ne (j := 3 * k) (by omega), updI_ne (j := 3 * k) (by omega), updI_ne (j := 3 * k) (by omega), updI_ne (j := 3 * k + 1) (by omega), updI_ne (j := 3 * k + 1) (by omega), updI_ne (j := 3 * k + 1) (by omega), updI_ne (j := 3 * k + 2) (by omega), updI_ne (j := 3 * k + 2) (by omega), updI_ne (j := 3 * k + 2) (by omega)]
    exact h.1 k (by omega)
theorem rOK_add (h : rOK nr rx ry) (hn : nr < 6) (ha : 0 ≤ a ∧ a ≤ 9) (hb : 0 ≤ b ∧ b ≤ 9) : rOK (nr + 1) (updI rx nr a) (updI ry nr b) := by
  refine ⟨by omega, fun k hk => ?_⟩
  by_cases e : k = nr
  · subst e
    rw [updI_eq, updI_eq]
    exact ⟨ha, hb⟩
  · rw [updI_ne e, updI_ne e]
    exact h.2 k (by omega)
theorem RoL_add (h : RoL nr rx ry ro) : RoL (nr + 1) (updI rx nr a) (updI ry nr b) (updI (updI ro (2 * nr) a) (2 * nr + 1) b) := by
  intro k hk
  by_cases e : k = nr
  · subst e
    rw [updI_eq, updI_eq, updI_eq]
    rw [updI_ne (by omega), updI_eq]
    exact ⟨rfl, rfl⟩
  · rw [updI_ne e, updI_ne e]
    rw [updI_ne (j := 2 * k) (by omega), updI_ne (j := 2 * k) (by omega), updI_ne (j := 2 * k + 1) (by omega), updI_ne (j := 2 * k + 1) (by omega)]
    exact h k (by omega)
theorem pOK_wind {i : Nat} (h : pOK np kd lf qt wd) (ha : 0 ≤ a ∧ a ≤ 4) : pOK np kd lf qt (updI wd i a) := by
  refine ⟨h.1, h.2.1, fun k hk => ?_⟩
  unfold updI
  split
  · exact ha
  · exact h.2.2 k hk
theorem PL_wind {i : Nat} (h : PL np kd lf qt wd pg wn) : PL np kd lf qt (updI wd i a) pg (updI wn i a) := by
  refine ⟨h.1, fun k hk => ?_⟩
  unfold updI
  split
  · rfl
  · exact h.2 k hk
theorem hOK_begin (h : hOK s) (ha : 0 ≤ a ∧ a ≤ 9) (hb : 0 ≤ b ∧ b ≤ 9) (hc : 0 ≤ c ∧ c ≤ 9) (he : 0 ≤ e ∧ e ≤ 3) : hOK (updI (updI (updI (updI s 0 a) 1 b) 2 c) 3 e) := ⟨ha, hb, hc, he, h.2.2.2.2.1, h.2.2.2.2.2⟩
theorem AG_begin (h : AG 7 bg (amF s)) : AG 7 (updI (updI (updI (updI bg 0 a) 1 b) 2 c) 3 e) (amF (updI (updI (updI (updI s 0 a) 1 b) 2 c) 3 e)) := by
  obtain ⟨e0, e1, e2, e3, e4, e5, e6⟩ := h.all
  exact AG.of7 rfl rfl rfl rfl e4 e5 e6
theorem hOK_ride (h : hOK s) (ha : 1 ≤ a ∧ a ≤ 2) : hOK (updI s 5 a) := ⟨h.1, h.2.1, h.2.2.1, h.2.2.2.1, ha, h.2.2.2.2.2⟩
theorem AG_ride (h : AG 7 bg (amF s)) : AG 7 (updI bg 5 a) (amF (updI s 5 a)) := by
  obtain ⟨e0, e1, e2, e3, e4, e5, e6⟩ := h.all
  exact AG.of7 e0 e1 e2 e3 e4 rfl e6
end ADD
theorem nums_p : numsF 112 = 3 := rfl
theorem nums_w : numsF 119 = 2 := rfl
theorem nums_r : numsF 114 = 2 := rfl
theorem nums_b : numsF 98 = 4 := rfl
theorem nums_t : numsF 116 = 1 := rfl
theorem tell_rel {k : Int} {t t2 : Nat → Int} {P : PSt} {M : MSt} (hA : AG (numsF k) t t2) (h0 : ∀ j, j < numsF k → 0 ≤ t j) (hG : GP P) (hM : PM P M) : (tellF k t P = none ∧ tellM k t2 M = none) ∨ ∃ (P2 : PSt) (M2 : MSt), tellF k t P = some P2 ∧ tellM k t2 M = some M2 ∧ GP P2 ∧ PM P2 M2 := by
  obtain ⟨np, kd, lf, qt, wd, nr, rx, ry, s⟩ := P
  obtain ⟨np2, pg, wn, nr2, ro, bg⟩ := M
  obtain ⟨g1, g2, g3, g4, g5⟩ := hG
  obtain ⟨m1, m2, m3, m4, m5⟩ := hM
  dsimp only at g1 g2 g3 g4 g5 m1 m2 m3 m4 m5
  subst m1
  subst m2
  by_cases h1 : k = 112
  · subst h1
    rw [nums_p] at hA h0
    have a0 := hA 0 (by omega)
    have a1 := hA 1 (by omega)
    have a2 := hA 2 (by omega)
    have b0 := h0 0 (by omega)
    have b1 := h0 1 (by omega)
    have b2 := h0 2 (by omega)
    by_cases hc : np2 < 7 ∧ t 0 < 4 ∧ t 1 < 10 ∧ t 2 ≤ 3
    · refine Or.inr ⟨_, _, tellF_p rfl hc, tellM_p rfl (by rw [← a0, ← a1, ← a2]; exact hc), ⟨pOK_add g1 hc.1 (by omega) (by omega) (by omega), g2, g3, g4, g5⟩, rfl, rfl, ?_, m4, m5⟩
      dsimp only
      rw [← a0, ← a1, ← a2]
      exact PL_add m3
    · exact Or.inl ⟨tellF_pn rfl hc, tellM_pn rfl (by rw [← a0, ← a1, ← a2]; exact hc)⟩
  by_cases h2 : k = 119
  · subst h2
    rw [nums_w] at hA h0
    have a0 := hA 0 (by omega)
    have a1 := hA 1 (by omega)
    have b0 := h0 0 (by omega)
    have b1 := h0 1 (by omega)
    by_cases hc : 1 ≤ t 0 ∧ t 0 ≤ 9 ∧ t 1 ≤ 4
    · refine Or.inr ⟨_, _, tellF_w rfl hc, tellM_w rfl (by rw [← a0, ← a1]; exact hc), ⟨pOK_wind g1 (by omega), g2, g3, g4, g5⟩, rfl, rfl, ?_, m4, m5⟩
      dsimp only
      rw [← a0, ← a1]
      exact PL_wind m3
    · exact Or.inl ⟨tellF_wn rfl hc, tellM_wn rfl (by rw [← a0, ← a1]; exact hc)⟩
  by_cases h3 : k = 114
  · subst h3
    rw [nums_r] at hA h0
    have a0 := hA 0 (by omega)
    have a1 := hA 1 (by omega)
    have b0 := h0 0 (by omega)
    have b1 := h0 1 (by omega)
    by_cases hc : nr2 < 6 ∧ t 0 ≤ 9 ∧ t 1 ≤ 9
    · refine Or.inr ⟨_, _, tellF_r rfl hc, tellM_r rfl (by rw [← a0, ← a1]; exact hc), ⟨g1, rOK_add g2 hc.1 (by omega) (by omega), g3, g4, g5⟩, rfl, rfl, m3, ?_, m5⟩
      dsimp only
      rw [← a0, ← a1]
      exact RoL_add m4
    · exact Or.inl ⟨tellF_rn rfl hc, tellM_rn rfl (by rw [← a0, ← a1]; exact hc)⟩
  by_cases h4 : k = 98
  · subst h4
    rw [nums_b] at hA h0
    have a0 := hA 0 (by omega)
    have a1 := hA 1 (by omega)
    have a2 := hA 2 (by omega)
    have a3 := hA 3 (by omega)
    have b0 := h0 0 (by omega)
    have b1 := h0 1 (by omega)
    have b2 := h0 2 (by omega)
    have b3 := h0 3 (by omega)
    by_cases hc : t 0 ≤ 9 ∧ t 1 ≤ 9 ∧ 1 ≤ t 2 ∧ t 2 ≤ 9 ∧ t 3 ≤ 3
    · refine Or.inr ⟨_, _, tellF_b rfl hc, tellM_b rfl (by rw [← a0, ← a1, ← a2, ← a3]; exact hc), ⟨g1, g2, hOK_begin g3 (by omega) (by omega) (by omega) (by omega), g4, g5⟩, rfl, rfl, m3, m4, ?_⟩
      dsimp only
      rw [← a0, ← a1, ← a2, ← a3]
      exact AG_begin m5
    · exact Or.inl ⟨tellF_bn rfl hc, tellM_bn rfl (by rw [← a0, ← a1, ← a2, ← a3]; exact hc)⟩
  by_cases h5 : k = 116
  · subst h5
    rw [nums_t] at hA h0
    have a0 := hA 0 (by omega)
    by_cases hc : 1 ≤ t 0 ∧ t 0 ≤ 2
    · refine Or.inr ⟨_, _, tellF_t rfl hc, tellM_t rfl (by rw [← a0]; exact hc), ⟨g1, g2, hOK_ride g3 hc, g4, g5⟩, rfl, rfl, m3, m4, ?_⟩
      dsimp only
      rw [← a0]
      exact AG_ride m5
    · exact Or.inl ⟨tellF_tn rfl hc, tellM_tn rfl (by rw [← a0]; exact hc)⟩
  exact Or.inl ⟨tellF_d ⟨h1, h2, h3, h4, h5⟩, tellM_d ⟨h1, h2, h3, h4, h5⟩⟩
section READ
variable {tx tx2 : Nat → Int} {len : Nat}
theorem rd1_rel (hs : ∀ a, sgF tx len a = sgF tx2 len a) (a : Nat) (sep : Int) : rd1 tx len a sep = rd1 tx2 len a sep := by
  unfold rd1
  simp only [hs]
theorem rds_rel (hs : ∀ a, sgF tx len a = sgF tx2 len a) : ∀ (r i a : Nat) (t t2 : Nat → Int), AG i t t2 → (∀ j, j < i → 0 ≤ t j) → (rds tx len r i a t = none ∧ rds tx2 len r i a t2 = none) ∨ ∃ x x2 : (Nat → Int) × Nat, rds tx len r i a t = some x ∧ rds tx2 len r i a t2 = some x2 ∧ x2.2 = x.2 ∧ AG (i + r) x.1 x2.1 ∧ ∀ j, j < i + r → 0 ≤ x.1 j
  | 0, i, a, t, t2, hA, h0 => Or.inr ⟨_, _, rds_0, rds_0, rfl, hA, h0⟩
  | r + 1, i, a, t, t2, hA, h0 => by
    cases h1 : rd1 tx len a (if r = 0 then 59 else 44) with
    | none => exact Or.inl ⟨rds_n h1, rds_n ((rd1_rel hs _ _).symm.trans h1)⟩
    | some y =>
      have h2 := rd1_le (by split <;> omega) h1
      have hA2 : AG (i + 1) (updI t i y.1) (updI t2 i y.1) := by
        intro j hj
        unfold updI
        split
        · rfl
        · exact hA j (by omega)
      have h3 : ∀ j, j < i + 1 → 0 ≤ updI t i y.1 j := by
        intro j hj
        unfold updI
        split
        · exact h2.2.2.2.1
        · exact h0 j (by omega)
      rw [rds_s h1, rds_s ((rd1_rel hs _ _).symm.trans h1), show i + (r + 1) = i + 1 + r by omega]
      exact rds_rel hs r (i + 1) y.2 _ _ hA2 h3
theorem it_rel (hs : ∀ a, sgF tx len a = sgF tx2 len a) {a : Nat} {t t2 : Nat → Int} {P : PSt} {M : MSt} (hG : GP P) (hM : PM P M) : (itF tx len a t P = none ∧ itM tx2 len a t2 M = none) ∨ ∃ (x : PSt × Nat × (Nat → Int)) (x2 : MSt × Nat × (Nat → Int)), itF tx len a t P = some x ∧ itM tx2 len a t2 M = some x2 ∧ x2.2.1 = x.2.1 ∧ GP x.1 ∧ PM x.1 x2.1 := by
  unfold itF itM itC itK
  rw [← hs a]
  rcases rds_rel hs (numsF (sgF tx len a)) 0 (a + 1) t t2 (fun j hj => absurd hj (Nat.not_lt_zero j)) (fun j hj => absurd hj (Nat.not_lt_zero j)) with ⟨h1, h2⟩ | ⟨x, x2, h1, h2, h3, h4, h5⟩
  · rw [h1, h2]
    exact Or.inl ⟨rfl, rfl⟩
  · rw [h1, h2]
    dsimp only
    rw [Nat.zero_add] at h4 h5
    rcases tell_rel h4 h5 hG hM with ⟨e1, e2⟩ | ⟨P2, M2, e1, e2, e3, e4⟩
    · rw [e1, e2]
      exact Or.inl ⟨rfl, rfl⟩
    · rw [e1, e2]
      exact Or.inr ⟨_, _, rfl, rfl, h3, e3, e4⟩
theorem ps_rel (hs : ∀ a, sgF tx len a = sgF tx2 len a) : ∀ (f a : Nat) (t t2 : Nat → Int) (P : PSt) (M : MSt), GP P → PM P M → (psF tx len f a t P).1 = (psM tx2 len f a t2 M).1 ∧ GP (psF tx len f a t P).2 ∧ PM (psF tx len f a t P).2 (psM tx2 len f a t2 M).2
  | 0, a, t, t2, P, M, hG, hM => ⟨rfl, hG, hM⟩
  | f + 1, a, t, t2, P, M, hG, hM => by
    rw [psF, psM]
    by_cases ha : a < len
    · rw [if_pos ha, if_pos ha]
      rcases it_rel hs (a := a) (t := t) (t2 := t2) hG hM with ⟨h1, h2⟩ | ⟨x, x2, h1, h2, h3, h4, h5⟩
      · rw [h1, h2]
        exact ⟨rfl, hG, hM⟩
      · rw [h1, h2]
        dsimp only
        rw [h3]
        exact ps_rel hs f x.2.1 x.2.2 x2.2.2 x.1 x2.1 h4 h5
    · rw [if_neg ha, if_neg ha]
      exact ⟨rfl, hG, hM⟩
end READ
theorem clr_GP {P : PSt} (h4 : P.2.2.2.2.2.2.2.2 4 = 0) (h6 : P.2.2.2.2.2.2.2.2 6 = -4) : GP (clrF P) := by
  obtain ⟨np, kd, lf, qt, wd, nr, rx, ry, s⟩ := P
  dsimp only at h4 h6
  refine ⟨⟨Nat.zero_le 7, fun k hk => absurd hk (Nat.not_lt_zero k), fun k hk => ?_⟩, ⟨Nat.zero_le 6, fun k hk => absurd hk (Nat.not_lt_zero k)⟩, ⟨⟨?_, ?_⟩, ⟨?_, ?_⟩, ⟨?_, ?_⟩, ⟨?_, ?_⟩, ⟨?_, ?_⟩, ?_⟩, h4, h6⟩
  · show 0 ≤ fillI wd 10 4 k ∧ fillI wd 10 4 k ≤ 4
    unfold fillI
    rw [if_pos hk]
    omega
  · show (0 : Int) ≤ 5
    omega
  · show (5 : Int) ≤ 9
    omega
  · show (0 : Int) ≤ 5
    omega
  · show (5 : Int) ≤ 9
    omega
  · show (0 : Int) ≤ 3
    omega
  · show (3 : Int) ≤ 9
    omega
  · show (0 : Int) ≤ 0
    omega
  · show (0 : Int) ≤ 3
    omega
  · show (1 : Int) ≤ 1
    omega
  · show (1 : Int) ≤ 2
    omega
  · show -4 ≤ s 6 ∧ s 6 < 7
    omega
theorem clr_PM {P : PSt} (M : MSt) (h4 : P.2.2.2.2.2.2.2.2 4 = 0) (h6 : P.2.2.2.2.2.2.2.2 6 = -4) : PM (clrF P) (clrM M) := by
  obtain ⟨np, kd, lf, qt, wd, nr, rx, ry, s⟩ := P
  obtain ⟨np2, pg, wn, nr2, ro, bg⟩ := M
  dsimp only at h4 h6
  refine ⟨rfl, rfl, ⟨fun k hk => absurd hk (Nat.not_lt_zero k), fun k hk => ?_⟩, fun k hk => absurd hk (Nat.not_lt_zero k), ?_⟩
  · show fillI wn 10 4 k = fillI wd 10 4 k
    unfold fillI
    rw [if_pos hk, if_pos hk]
  · refine AG.of7 rfl rfl rfl rfl ?_ rfl ?_
    · show (0 : Int) = s 4
      exact h4.symm
    · show (-1 : Int) = if s 6 = -4 then -1 else s 6
      rw [if_pos h6]
theorem fa_rel {tx tx2 : Nat → Int} {len : Nat} (hs : ∀ a, sgF tx len a = sgF tx2 len a) (t t2 : Nat → Int) {P : PSt} (M : MSt) (h4 : P.2.2.2.2.2.2.2.2 4 = 0) (h6 : P.2.2.2.2.2.2.2.2 6 = -4) : (psF tx len 200 0 t (clrF P)).1 = (psM tx2 len 200 0 t2 (clrM M)).1 ∧ GP (psF tx len 200 0 t (clrF P)).2 ∧ PM (psF tx len 200 0 t (clrF P)).2 (psM tx2 len 200 0 t2 (clrM M)).2 :=
  ps_rel hs 200 0 t t2 _ _ (clr_GP h4 h6) (clr_PM M h4 h6)
theorem sg_AG {tx tx2 : Nat → Int} {len : Nat} (h : AG len tx tx2) (a : Nat) : sgF tx len a = sgF tx2 len a := by
  unfold sgF
  split
  · exact h a (by assumption)
  · rfl
section CP
variable {np nr : Nat} {kd lf qt wd rx ry pg wn ro pg0 wn0 ro0 : Nat → Int}
theorem PL_cp (h : PL np kd lf qt wd pg wn) (hn : np ≤ 7) : PL np kd lf qt wd (cpI pg0 0 pg 0 21) (cpI wn0 0 wn 0 10) := by
  refine ⟨fun k hk => ?_, fun k hk => ?_⟩
  · rw [cpI_all (by omega), cpI_all (by omega), cpI_all (by omega)]
    exact h.1 k hk
  · rw [cpI_all hk]
    exact h.2 k hk
theorem RoL_cp (h : RoL nr rx ry ro) (hn : nr ≤ 6) : RoL nr rx ry (cpI ro0 0 ro 0 12) := by
  intro k hk
  rw [cpI_all (by omega), cpI_all (by omega)]
  exact h k hk
end CP
