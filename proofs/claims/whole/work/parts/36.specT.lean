/-! ===== the reference's answers ===== -/
theorem psM_bd {tx : Nat → Int} {len : Nat} : ∀ (f a : Nat) (t : Nat → Int) (P : MSt), P.1 ≤ 7 → P.2.2.2.1 ≤ 6 → (psM tx len f a t P).2.1 ≤ 7 ∧ (psM tx len f a t P).2.2.2.2.1 ≤ 6
  | 0, a, t, P, h1, h2 => ⟨h1, h2⟩
  | f + 1, a, t, P, h1, h2 => by
    rw [psM]
    split
    · cases h : itM tx len a t P with
      | none => exact ⟨h1, h2⟩
      | some x =>
        have h3 := itM_some h h1 h2
        exact psM_bd f x.2.1 x.2.2 x.1 h3.1 h3.2.1
    · exact ⟨h1, h2⟩
theorem psM_rg {tx : Nat → Int} {len : Nat} : ∀ (f a : Nat) (t : Nat → Int) (P : MSt), len ≤ 200 → -4 ≤ (psM tx len f a t P).1 ∧ (psM tx len f a t P).1 < 200
  | 0, a, t, P, _ => by rw [psM]; exact ⟨by show (-4 : Int) ≤ -4; omega, by show (-4 : Int) < 200; omega⟩
  | f + 1, a, t, P, hl => by
    rw [psM]
    split
    · cases h : itM tx len a t P with
      | none => exact ⟨by show (-4 : Int) ≤ (a : Int); omega, by show (a : Int) < 200; omega⟩
      | some x => exact psM_rg f x.2.1 x.2.2 x.1 hl
    · exact ⟨by show (-4 : Int) ≤ -4; omega, by show (-4 : Int) < 200; omega⟩
theorem clrM_bd (P : MSt) : (clrM P).1 ≤ 7 ∧ (clrM P).2.2.2.1 ≤ 6 := by
  obtain ⟨a, b, c, d, e, f⟩ := P
  exact ⟨Nat.zero_le 7, Nat.zero_le 6⟩
section ANS
variable {np nr i : Nat} {kd lf qt wd pg wn rx ry ro nw h : Nat → Int} {w : Int}
theorem pegA_bad {p : Int} (hc : ¬ ((0 ≤ p ∧ p < (np : Int)) ∧ 0 ≤ w ∧ w ≤ 4)) : pegA np kd lf qt h p w = -1 := by
  unfold pegA
  split
  · rw [if_neg (by omega), if_neg (by omega), if_neg (by omega), if_neg (by omega), if_neg (by omega)]
  · rfl
theorem pegA_lo (hP : PL np kd lf qt wd pg wn) (hi : i < np) (hw : 0 ≤ w ∧ w < 3) : pegA np kd lf qt h (i : Int) w = pg (3 * i + w.toNat) := by
  obtain ⟨p1, p2, p3⟩ := hP.1 i hi
  unfold pegA
  rw [if_pos (by omega), Int.toNat_natCast]
  rcases (by omega : w = 0 ∨ w = 1 ∨ w = 2) with e | e | e <;> subst e
  · exact p1.symm
  · exact p2.symm
  · exact p3.symm
theorem pegA_3 (hP : PL np kd lf qt wd pg wn) (hv : hV np h) (ha : AG 7 nw (amF h)) (hi : i < np) (hw : w = 3) : pegA np kd lf qt h (i : Int) w = liftF (pg (3 * i)) (pg (3 * i + 1)) (nw 3) (dbM pg (nw 6)) (nw 5) + 20 := by
  obtain ⟨e0, e1, e2, e3, e4, e5, e6⟩ := ha.all
  obtain ⟨p1, p2, p3⟩ := hP.1 i hi
  subst hw
  unfold pegA
  rw [if_pos (by omega), Int.toNat_natCast, p1, p2, e3, e5, e6, db_rel hP hv]
  rfl
theorem pegA_4 (hP : PL np kd lf qt wd pg wn) (hp : pOK np kd lf qt wd) (ha : AG 7 nw (amF h)) (hi : i < np) (hw : w = 4) : pegA np kd lf qt h (i : Int) w = quM (pg (3 * i)) (pg (3 * i + 2)) (nw 3) := by
  obtain ⟨e0, e1, e2, e3, e4, e5, e6⟩ := ha.all
  obtain ⟨p1, p2, p3⟩ := hP.1 i hi
  subst hw
  unfold pegA
  rw [if_pos (by omega), Int.toNat_natCast, p1, p3, e3, qu_rel (hp.2.1 i hi).2.2]
  rfl
theorem nowA_lo (ha : AG 7 nw (amF h)) (hw : 0 ≤ w ∧ w < 6) : nowA nr rx ry h w = nw w.toNat := by
  obtain ⟨e0, e1, e2, e3, e4, e5, e6⟩ := ha.all
  rcases (by omega : w = 0 ∨ w = 1 ∨ w = 2 ∨ w = 3 ∨ w = 4 ∨ w = 5) with e | e | e | e | e | e <;> subst e
  · exact e0.symm
  · exact e1.symm
  · exact e2.symm
  · exact e3.symm
  · exact e4.symm
  · exact e5.symm
theorem nowA_6 (hw : w = 6) : nowA nr rx ry h w = bI (landF nr rx ry h) := by subst hw; rfl
theorem nowA_7 (hw : w = 7) : nowA nr rx ry h w = bI (fallF nr rx ry h) := by subst hw; rfl
theorem nowA_8 (hw : w = 8) : nowA nr rx ry h w = h 6 := by subst hw; rfl
theorem nowA_bad (hw : ¬ (0 ≤ w ∧ w ≤ 8)) : nowA nr rx ry h w = -1 := by
  unfold nowA
  rw [if_neg (by omega), if_neg (by omega), if_neg (by omega), if_neg (by omega), if_neg (by omega), if_neg (by omega), if_neg (by omega), if_neg (by omega), if_neg (by omega)]
theorem fall_land {nr : Nat} {rx ry h : Nat → Int} : fallF nr rx ry h = (decide (h 2 = 0) && !landF nr rx ry h) := by
  unfold fallF landF
  cases decide (h 2 = 0) <;> simp
end ANS
/-- what is remembered -/
def rmM (was : Nat → Int) (ac : Nat) (st : Nat → Int) : Nat → Int := if ac < 8 then cpI was (7 * ac) st 0 7 else cpI (cpI was 0 was 7 49) 49 st 0 7
def WL (n : Nat) (g : Nat → Nat → Int) (was : Nat → Int) : Prop := ∀ k, k < n → ∀ i, i < 7 → was (7 * k + i) = amF (g k) i
theorem WL_add {n : Nat} {g : Nat → Nat → Int} {was st h : Nat → Int} (hw : WL n g was) (ha : AG 7 st (amF h)) : WL (n + 1) (updG g n h) (cpI was (7 * n) st 0 7) := by
  intro k hk i hi
  unfold cpI updG
  by_cases e : k = n
  · subst e
    rw [if_pos (by omega), if_pos rfl, show 0 + (7 * k + i - 7 * k) = i by omega]
    exact ha i hi
  · rw [if_neg (by omega), if_neg e]
    exact hw k (by omega) i hi
theorem rm_rel {n : Nat} {g : Nat → Nat → Int} {was st h : Nat → Int} (hn : n ≤ 8) (hw : WL n g was) (ha : AG 7 st (amF h)) : WL (putN n) (putG g n h) (rmM was n st) := by
  unfold putN putG rmM
  by_cases e : n < 8
  · rw [if_pos e, if_pos e, if_pos e]
    exact WL_add hw ha
  · rw [if_neg e, if_neg e, if_neg e]
    have h7 : WL 7 (rot8 g) (cpI was 0 was 7 49) := by
      intro k hk i hi
      unfold cpI rot8
      rw [if_pos (by omega), if_neg (by omega), if_pos hk, show 7 + (7 * k + i - 0) = 7 * (k + 1) + i by omega]
      exact hw (k + 1) (by omega) i hi
    exact WL_add h7 ha
theorem putN_le {n : Nat} (h : n ≤ 8) : putN n ≤ 8 ∧ 0 < putN n := by unfold putN; split <;> omega
theorem putG_all {n : Nat} {g : Nat → Nat → Int} {h : Nat → Int} {Q : (Nat → Int) → Prop} (hn : n ≤ 8) (hg : ∀ k, k < n → Q (g k)) (hh : Q h) : ∀ k, k < putN n → Q (putG g n h k) := by
  intro k hk
  unfold putN at hk
  unfold putG updG
  by_cases e : n < 8
  · rw [if_pos e] at hk ⊢
    by_cases e2 : k = n
    · simp only [e2]; exact hh
    · simp only [e2, if_false]; exact hg k (by omega)
  · rw [if_neg e] at hk ⊢
    by_cases e2 : k = 7
    · simp only [e2]; exact hh
    · simp only [e2, if_false]
      unfold rot8
      rw [if_neg (by omega), if_pos (by omega)]
      exact hg (k + 1) (by omega)
def SL (ns : Nat) (sp sc sv se : Nat → Int) : Prop := ∀ k, k < ns → se (3 * k) = sp k ∧ se (3 * k + 1) = sc k ∧ se (3 * k + 2) - 18 = sv k
theorem SL_add {ns : Nat} {sp sc sv se : Nat → Int} {p c v : Int} (h : SL ns sp sc sv se) : SL (ns + 1) (updI sp ns p) (updI sc ns c) (updI sv ns (v - 18)) (updI (updI (updI se (3 * ns) p) (3 * ns + 1) c) (3 * ns + 2) v) := by
  intro k hk
  unfold updI
  by_cases e : k = ns
  · subst e
    rw [if_pos rfl, if_pos rfl, if_pos rfl, if_neg (by omega), if_neg (by omega), if_pos rfl, if_neg (by omega), if_pos rfl, if_pos rfl]
    exact ⟨rfl, rfl, rfl⟩
  · rw [if_neg e, if_neg e, if_neg e, if_neg (by omega), if_neg (by omega), if_neg (by omega), if_neg (by omega), if_neg (by omega), if_neg (by omega), if_neg (by omega), if_neg (by omega), if_neg (by omega)]
    exact h k (by omega)
theorem bits_no {c : Nat → Bool} : ∀ {n : Nat}, (∀ k, k < n → c k = false) → bitsTo c n = 0
  | 0, _ => rfl
  | n + 1, h => by rw [bitsTo, if_neg (by rw [h n (by omega)]; decide), bits_no (fun k hk => h k (by omega))]
theorem bits_congr {c c2 : Nat → Bool} : ∀ {n : Nat}, (∀ k, k < n → c k = c2 k) → bitsTo c n = bitsTo c2 n
  | 0, _ => rfl
  | n + 1, h => by rw [bitsTo, bitsTo, h n (by omega), bits_congr (fun k hk => h k (by omega))]
theorem safeA_eq (np nr : Nat) (kd lf qt wd rx ry h : Nat → Int) : safeA np nr kd lf qt wd rx ry h = bitsTo (fun i => decide (¬ h 2 = 0) && !fallF nr rx ry (tnF np kd lf qt wd h i)) np := by
  unfold safeA
  split
  · rename_i e
    exact (bits_no (fun k _ => by simp [e])).symm
  · rename_i e
    exact bits_congr (fun k _ => by simp [e])
