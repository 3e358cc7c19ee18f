/-! ===== a plan, and a text read into it ===== -/
/-- pegs: how many, kinds, lifts, quarters; winds; roofs: how many, xs, ys; the horse that begins -/
abbrev PSt : Type := Nat × (Nat → Int) × (Nat → Int) × (Nat → Int) × (Nat → Int) × Nat × (Nat → Int) × (Nat → Int) × (Nat → Int)
def plW (E : Ev) (p pK pL pQ pW pX pY pS : Nat) (P : PSt) : va_W := [(p, ob 2 [.ref pK, .ref pL, .ref pQ, .ref pW, .ref pX, .ref pY, .ref pS, .int (zz (P.1 : Int)), .int (zz (P.2.2.2.2.2.1 : Int))]), (pK, aI E 7 P.2.1), (pL, aI E 7 P.2.2.1), (pQ, aI E 7 P.2.2.2.1), (pW, aI E 10 P.2.2.2.2.1), (pX, aI E 6 P.2.2.2.2.2.2.1), (pY, aI E 6 P.2.2.2.2.2.2.2.1), (pS, hO P.2.2.2.2.2.2.2.2)]
def tellF (kind : Int) (t : Nat → Int) (P : PSt) : Option PSt := match P with
  | (np, kd, lf, qt, wd, nr, rx, ry, s) =>
    if kind = 112 then (if np < 7 ∧ t 0 < 4 ∧ t 1 < 10 ∧ t 2 ≤ 3 then some (np + 1, updI kd np (t 0), updI lf np (t 1), updI qt np (t 2), wd, nr, rx, ry, s) else none)
    else if kind = 119 then (if 1 ≤ t 0 ∧ t 0 ≤ 9 ∧ t 1 ≤ 4 then some (np, kd, lf, qt, updI wd (t 0).toNat (t 1), nr, rx, ry, s) else none)
    else if kind = 114 then (if nr < 6 ∧ t 0 ≤ 9 ∧ t 1 ≤ 9 then some (np, kd, lf, qt, wd, nr + 1, updI rx nr (t 0), updI ry nr (t 1), s) else none)
    else if kind = 98 then (if t 0 ≤ 9 ∧ t 1 ≤ 9 ∧ 1 ≤ t 2 ∧ t 2 ≤ 9 ∧ t 3 ≤ 3 then some (np, kd, lf, qt, wd, nr, rx, ry, updI (updI (updI (updI s 0 (t 0)) 1 (t 1)) 2 (t 2)) 3 (t 3)) else none)
    else if kind = 116 then (if 1 ≤ t 0 ∧ t 0 ≤ 2 then some (np, kd, lf, qt, wd, nr, rx, ry, updI s 5 (t 0)) else none)
    else none
/-- an answer that is told by whether there is something -/
def oPost {α : Type} (o : Option α) (W1 : α → va_W → Prop) (W0 : va_W → Prop) : Option Value → va_W → Prop := fun v w => match o with
  | some x => v = some (.int (zz 1)) ∧ W1 x w
  | none => v = some (.int (zz 0)) ∧ W0 w
theorem oPost_some {α : Type} {o : Option α} {W1 : α → va_W → Prop} {W0 : va_W → Prop} {x : α} {w : va_W} (h : o = some x) (hw : W1 x w) : oPost o W1 W0 (some (.int (zz 1))) w := by subst h; exact ⟨rfl, hw⟩
theorem oPost_none {α : Type} {o : Option α} {W1 : α → va_W → Prop} {W0 : va_W → Prop} {w : va_W} (h : o = none) (hw : W0 w) : oPost o W1 W0 (some (.int (zz 0))) w := by subst h; exact ⟨rfl, hw⟩
def sgF (tx : Nat → Int) (len at_ : Nat) : Int := if at_ < len then tx at_ else 0
def numsF (kind : Int) : Nat := if kind = 98 then 4 else if kind = 112 then 3 else if kind = 114 then 2 else if kind = 116 then 1 else if kind = 119 then 2 else 0
theorem numsF_le (kind : Int) : numsF kind ≤ 4 := by
  unfold numsF
  (repeat' split) <;> omega
/-- a number and what is behind it -/
def rd1 (tx : Nat → Int) (len at_ : Nat) (sep : Int) : Option (Int × Nat) :=
  if 48 ≤ sgF tx len at_ ∧ sgF tx len at_ ≤ 57 then
    if 48 ≤ sgF tx len (at_ + 1) ∧ sgF tx len (at_ + 1) ≤ 57 then (if sgF tx len (at_ + 2) = sep then some (10 * (sgF tx len at_ - 48) + (sgF tx len (at_ + 1) - 48), at_ + 3) else none)
    else (if sgF tx len (at_ + 1) = sep then some (sgF tx len at_ - 48, at_ + 2) else none)
  else none
/-- so many numbers more, from the i-th on -/
def rds (tx : Nat → Int) (len : Nat) : Nat → Nat → Nat → (Nat → Int) → Option ((Nat → Int) × Nat)
  | 0, _, at_, t => some (t, at_)
  | r + 1, i, at_, t => match rd1 tx len at_ (if r = 0 then 59 else 44) with
    | none => none
    | some x => rds tx len r (i + 1) x.2 (updI t i x.1)
/-- an item -/
def itC (tx : Nat → Int) (len : Nat) (kind : Int) (P : PSt) (r i at_ : Nat) (t : Nat → Int) : Option (PSt × Nat × (Nat → Int)) := match rds tx len r i at_ t with
  | none => none
  | some x => match tellF kind x.1 P with
    | none => none
    | some P2 => some (P2, x.2, x.1)
def itF (tx : Nat → Int) (len at_ : Nat) (t : Nat → Int) (P : PSt) : Option (PSt × Nat × (Nat → Int)) := itC tx len (sgF tx len at_) P (numsF (sgF tx len at_)) 0 (at_ + 1) t
/-- so many items at most: the fault's place or -4; the plan -/
def psF (tx : Nat → Int) (len : Nat) : Nat → Nat → (Nat → Int) → PSt → Int × PSt
  | 0, _, _, P => (-4, P)
  | f + 1, at_, t, P => if at_ < len then (match itF tx len at_ t P with
    | none => ((at_ : Int), P)
    | some x => psF tx len f x.2.1 x.2.2 x.1) else (-4, P)
def fillI (f : Nat → Int) (n : Nat) (v : Int) : Nat → Int := fun j => if j < n then v else f j
theorem fillI_0 (f : Nat → Int) (v : Int) : fillI f 0 v = f := by funext j; simp [fillI]
theorem fillI_succ (f : Nat → Int) (n : Nat) (v : Int) : updI (fillI f n v) n v = fillI f (n + 1) v := by
  funext j
  unfold updI fillI
  by_cases h : j = n
  · subst h; simp
  · by_cases h2 : j < n
    · rw [if_neg h, if_pos h2, if_pos (by omega)]
    · rw [if_neg h, if_neg h2, if_neg (by omega)]
def clrF (P : PSt) : PSt := match P with
  | (_, kd, lf, qt, wd, _, rx, ry, s) => (0, kd, lf, qt, fillI wd 10 4, 0, rx, ry, updI (updI (updI (updI (updI s 0 5) 1 5) 2 3) 3 0) 5 1)
def nmOK (t : Nat → Int) : Prop := ∀ j, j < 4 → -1 ≤ t j ∧ t j ≤ 99
def txOK (tx : Nat → Int) (len : Nat) : Prop := len ≤ 200 ∧ ∀ j, j < len → 0 ≤ tx j ∧ tx j < 65536
theorem sgF_rg {tx : Nat → Int} {len at_ : Nat} (h : txOK tx len) : 0 ≤ sgF tx len at_ ∧ sgF tx len at_ < 65536 := by
  unfold sgF
  split
  · exact h.2 _ (by assumption)
  · omega
def fdF (kd : Nat → Int) : Nat → Nat → Int
  | 0, _ => -4
  | n + 1, k => if kd k = 1 then (k : Int) else fdF kd n (k + 1)
theorem updI_eq (f : Nat → Int) (k : Nat) (x : Int) : updI f k x k = x := if_pos rfl
theorem updI_ne {f : Nat → Int} {k j : Nat} {x : Int} (h : j ≠ k) : updI f k x j = f j := if_neg h
def scW (E : Ev) (s sg nm len : Nat) (tx : Nat → Int) (at_ : Nat) (t : Nat → Int) : va_W := [(s, ob 3 [.ref sg, .ref nm, .int (zz (len : Int)), .int (zz (at_ : Int))]), (sg, aC E 200 tx), (nm, aI E 4 t)]
section TELL
variable {k : Int} {t : Nat → Int} {np nr : Nat} {kd lf qt wd rx ry s : Nat → Int}
theorem tellF_p (hk : k = 112) (hc : np < 7 ∧ t 0 < 4 ∧ t 1 < 10 ∧ t 2 ≤ 3) : tellF k t (np, kd, lf, qt, wd, nr, rx, ry, s) = some (np + 1, updI kd np (t 0), updI lf np (t 1), updI qt np (t 2), wd, nr, rx, ry, s) := by
  show (if k = 112 then _ else _) = _
  rw [if_pos hk, if_pos hc]
theorem tellF_pn (hk : k = 112) (hc : ¬ (np < 7 ∧ t 0 < 4 ∧ t 1 < 10 ∧ t 2 ≤ 3)) : tellF k t (np, kd, lf, qt, wd, nr, rx, ry, s) = none := by
  show (if k = 112 then _ else _) = _
  rw [if_pos hk, if_neg hc]
theorem tellF_w (hk : k = 119) (hc : 1 ≤ t 0 ∧ t 0 ≤ 9 ∧ t 1 ≤ 4) : tellF k t (np, kd, lf, qt, wd, nr, rx, ry, s) = some (np, kd, lf, qt, updI wd (t 0).toNat (t 1), nr, rx, ry, s) := by
  show (if k = 112 then _ else _) = _
  rw [if_neg (by omega), if_pos hk, if_pos hc]
theorem tellF_wn (hk : k = 119) (hc : ¬ (1 ≤ t 0 ∧ t 0 ≤ 9 ∧ t 1 ≤ 4)) : tellF k t (np, kd, lf, qt, wd, nr, rx, ry, s) = none := by
  show (if k = 112 then _ else _) = _
  rw [if_neg (by omega), if_pos hk, if_neg hc]
theorem tellF_r (hk : k = 114) (hc : nr < 6 ∧ t 0 ≤ 9 ∧ t 1 ≤ 9) : tellF k t (np, kd, lf, qt, wd, nr, rx, ry, s) = some (np, kd, lf, qt, wd, nr + 1, updI rx nr (t 0), updI ry nr (t 1), s) := by
  show (if k = 112 then _ else _) = _
  rw [if_neg (by omega), if_neg (by omega), if_pos hk, if_pos hc]
theorem tellF_rn (hk : k = 114) (hc : ¬ (nr < 6 ∧ t 0 ≤ 9 ∧ t 1 ≤ 9)) : tellF k t (np, kd, lf, qt, wd, nr, rx, ry, s) = none := by
  show (if k = 112 then _ else _) = _
  rw [if_neg (by omega), if_neg (by omega), if_pos hk, if_neg hc]
theorem tellF_b (hk : k = 98) (hc : t 0 ≤ 9 ∧ t 1 ≤ 9 ∧ 1 ≤ t 2 ∧ t 2 ≤ 9 ∧ t 3 ≤ 3) : tellF k t (np, kd, lf, qt, wd, nr, rx, ry, s) = some (np, kd, lf, qt, wd, nr, rx, ry, updI (updI (updI (updI s 0 (t 0)) 1 (t 1)) 2 (t 2)) 3 (t 3)) := by
  show (if k = 112 then _ else _) = _
  rw [if_neg (by omega), if_neg (by omega), if_neg (by omega), if_pos hk, if_pos hc]
theorem tellF_bn (hk : k = 98) (hc : ¬ (t 0 ≤ 9 ∧ t 1 ≤ 9 ∧ 1 ≤ t 2 ∧ t 2 ≤ 9 ∧ t 3 ≤ 3)) : tellF k t (np, kd, lf, qt, wd, nr, rx, ry, s) = none := by
  show (if k = 112 then _ else _) = _
  rw [if_neg (by omega), if_neg (by omega), if_neg (by omega), if_pos hk, if_neg hc]
theorem tellF_t (hk : k = 116) (hc : 1 ≤ t 0 ∧ t 0 ≤ 2) : tellF k t (np, kd, lf, qt, wd, nr, rx, ry, s) = some (np, kd, lf, qt, wd, nr, rx, ry, updI s 5 (t 0)) := by
  show (if k = 112 then _ else _) = _
  rw [if_neg (by omega), if_neg (by omega), if_neg (by omega), if_neg (by omega), if_pos hk, if_pos hc]
theorem tellF_tn (hk : k = 116) (hc : ¬ (1 ≤ t 0 ∧ t 0 ≤ 2)) : tellF k t (np, kd, lf, qt, wd, nr, rx, ry, s) = none := by
  show (if k = 112 then _ else _) = _
  rw [if_neg (by omega), if_neg (by omega), if_neg (by omega), if_neg (by omega), if_pos hk, if_neg hc]
theorem tellF_d (h : k ≠ 112 ∧ k ≠ 119 ∧ k ≠ 114 ∧ k ≠ 98 ∧ k ≠ 116) : tellF k t (np, kd, lf, qt, wd, nr, rx, ry, s) = none := by
  show (if k = 112 then _ else _) = _
  rw [if_neg h.1, if_neg h.2.1, if_neg h.2.2.1, if_neg h.2.2.2.1, if_neg h.2.2.2.2]
end TELL
theorem itC_0 {tx : Nat → Int} {len : Nat} {k : Int} {P : PSt} {i a : Nat} {t : Nat → Int} : itC tx len k P 0 i a t = (match tellF k t P with | none => none | some P2 => some (P2, a, t)) := rfl
theorem itC_s {tx : Nat → Int} {len : Nat} {k : Int} {P : PSt} {r i a : Nat} {t : Nat → Int} {x : Int × Nat} (h : rd1 tx len a (if r = 0 then 59 else 44) = some x) : itC tx len k P (r + 1) i a t = itC tx len k P r (i + 1) x.2 (updI t i x.1) := by
  unfold itC
  rw [rds, h]
theorem itC_n {tx : Nat → Int} {len : Nat} {k : Int} {P : PSt} {r i a : Nat} {t : Nat → Int} (h : rd1 tx len a (if r = 0 then 59 else 44) = none) : itC tx len k P (r + 1) i a t = none := by
  unfold itC
  rw [rds, h]
theorem rd1_2 {tx : Nat → Int} {len a : Nat} {sep : Int} (h1 : 48 ≤ sgF tx len a ∧ sgF tx len a ≤ 57) (h2 : 48 ≤ sgF tx len (a + 1) ∧ sgF tx len (a + 1) ≤ 57) (h3 : sgF tx len (a + 2) = sep) : rd1 tx len a sep = some (10 * (sgF tx len a - 48) + (sgF tx len (a + 1) - 48), a + 3) := by
  unfold rd1; rw [if_pos h1, if_pos h2, if_pos h3]
theorem rd1_2n {tx : Nat → Int} {len a : Nat} {sep : Int} (h1 : 48 ≤ sgF tx len a ∧ sgF tx len a ≤ 57) (h2 : 48 ≤ sgF tx len (a + 1) ∧ sgF tx len (a + 1) ≤ 57) (h3 : ¬ sgF tx len (a + 2) = sep) : rd1 tx len a sep = none := by
  unfold rd1; rw [if_pos h1, if_pos h2, if_neg h3]
theorem rd1_1 {tx : Nat → Int} {len a : Nat} {sep : Int} (h1 : 48 ≤ sgF tx len a ∧ sgF tx len a ≤ 57) (h2 : ¬ (48 ≤ sgF tx len (a + 1) ∧ sgF tx len (a + 1) ≤ 57)) (h3 : sgF tx len (a + 1) = sep) : rd1 tx len a sep = some (sgF tx len a - 48, a + 2) := by
  unfold rd1; rw [if_pos h1, if_neg h2, if_pos h3]
theorem rd1_1n {tx : Nat → Int} {len a : Nat} {sep : Int} (h1 : 48 ≤ sgF tx len a ∧ sgF tx len a ≤ 57) (h2 : ¬ (48 ≤ sgF tx len (a + 1) ∧ sgF tx len (a + 1) ≤ 57)) (h3 : ¬ sgF tx len (a + 1) = sep) : rd1 tx len a sep = none := by
  unfold rd1; rw [if_pos h1, if_neg h2, if_neg h3]
theorem rd1_0 {tx : Nat → Int} {len a : Nat} {sep : Int} (h1 : ¬ (48 ≤ sgF tx len a ∧ sgF tx len a ≤ 57)) : rd1 tx len a sep = none := by
  unfold rd1; rw [if_neg h1]
theorem nmOK_up {t : Nat → Int} {i : Nat} {v : Int} (h : nmOK t) (hv : -1 ≤ v ∧ v ≤ 99) : nmOK (updI t i v) := by
  intro j hj
  unfold updI
  split
  · exact hv
  · exact h j hj
theorem rd_cases (tx : Nat → Int) (len a : Nat) : ((48 ≤ sgF tx len a ∧ sgF tx len a ≤ 57) ∧ (48 ≤ sgF tx len (a + 1) ∧ sgF tx len (a + 1) ≤ 57)) ∨ ((48 ≤ sgF tx len a ∧ sgF tx len a ≤ 57) ∧ ¬ (48 ≤ sgF tx len (a + 1) ∧ sgF tx len (a + 1) ≤ 57)) ∨ ¬ (48 ≤ sgF tx len a ∧ sgF tx len a ≤ 57) := by
  by_cases h1 : 48 ≤ sgF tx len a ∧ sgF tx len a ≤ 57
  · by_cases h2 : 48 ≤ sgF tx len (a + 1) ∧ sgF tx len (a + 1) ≤ 57
    · exact Or.inl ⟨h1, h2⟩
    · exact Or.inr (Or.inl ⟨h1, h2⟩)
  · exact Or.inr (Or.inr h1)
theorem sgF_in {tx : Nat → Int} {len a : Nat} (h : sgF tx len a ≠ 0) : a < len := by
  unfold sgF at h
  split at h
  · assumption
  · exact absurd rfl h
theorem rd1_le {tx : Nat → Int} {len a : Nat} {sep : Int} {x : Int × Nat} (hs : sep ≠ 0) (h : rd1 tx len a sep = some x) : x.2 ≤ len ∧ a < x.2 ∧ x.2 ≤ a + 3 ∧ 0 ≤ x.1 ∧ x.1 ≤ 99 := by
  unfold rd1 at h
  split at h
  · rename_i h1
    split at h
    · rename_i h2
      split at h
      · rename_i h3
        cases h
        have := sgF_in (tx := tx) (len := len) (a := a + 2) (by omega)
        dsimp only
        omega
      · cases h
    · split at h
      · rename_i h3
        cases h
        have := sgF_in (tx := tx) (len := len) (a := a + 1) (by omega)
        dsimp only
        omega
      · cases h
  · cases h
theorem rds_le {tx : Nat → Int} {len : Nat} : ∀ (r i a : Nat) (t : Nat → Int) (x : (Nat → Int) × Nat), rds tx len r i a t = some x → a ≤ x.2 ∧ (0 < r → x.2 ≤ len)
  | 0, i, a, t, x, h => by
    rw [rds] at h
    cases h
    exact ⟨Nat.le_refl _, fun h => absurd h (Nat.lt_irrefl 0)⟩
  | r + 1, i, a, t, x, h => by
    rw [rds] at h
    cases h1 : rd1 tx len a (if r = 0 then 59 else 44) with
    | none => rw [h1] at h; cases h
    | some y =>
      rw [h1] at h
      dsimp only at h
      have h2 := rd1_le (by split <;> omega) h1
      have h3 := rds_le r (i + 1) y.2 _ x h
      refine ⟨by omega, fun _ => ?_⟩
      cases r with
      | zero =>
        rw [rds] at h
        cases h
        exact h2.1
      | succ r => exact h3.2 (by omega)
theorem tellF_some {k : Int} {t : Nat → Int} {P P2 : PSt} (h : tellF k t P = some P2) (hn : P.1 ≤ 7) (hr : P.2.2.2.2.2.1 ≤ 6) : P2.1 ≤ 7 ∧ P2.2.2.2.2.2.1 ≤ 6 ∧ 0 < numsF k := by
  obtain ⟨np, kd, lf, qt, wd, nr, rx, ry, s⟩ := P
  dsimp only at hn hr
  by_cases h1 : k = 112
  · by_cases hc : np < 7 ∧ t 0 < 4 ∧ t 1 < 10 ∧ t 2 ≤ 3
    · rw [tellF_p h1 hc] at h; cases h; dsimp only; subst h1; exact ⟨by omega, by omega, by decide⟩
    · rw [tellF_pn h1 hc] at h; cases h
  · by_cases h2 : k = 119
    · by_cases hc : 1 ≤ t 0 ∧ t 0 ≤ 9 ∧ t 1 ≤ 4
      · rw [tellF_w h2 hc] at h; cases h; dsimp only; subst h2; exact ⟨by omega, by omega, by decide⟩
      · rw [tellF_wn h2 hc] at h; cases h
    · by_cases h3 : k = 114
      · by_cases hc : nr < 6 ∧ t 0 ≤ 9 ∧ t 1 ≤ 9
        · rw [tellF_r h3 hc] at h; cases h; dsimp only; subst h3; exact ⟨by omega, by omega, by decide⟩
        · rw [tellF_rn h3 hc] at h; cases h
      · by_cases h4 : k = 98
        · by_cases hc : t 0 ≤ 9 ∧ t 1 ≤ 9 ∧ 1 ≤ t 2 ∧ t 2 ≤ 9 ∧ t 3 ≤ 3
          · rw [tellF_b h4 hc] at h; cases h; dsimp only; subst h4; exact ⟨by omega, by omega, by decide⟩
          · rw [tellF_bn h4 hc] at h; cases h
        · by_cases h5 : k = 116
          · by_cases hc : 1 ≤ t 0 ∧ t 0 ≤ 2
            · rw [tellF_t h5 hc] at h; cases h; dsimp only; subst h5; exact ⟨by omega, by omega, by decide⟩
            · rw [tellF_tn h5 hc] at h; cases h
          · rw [tellF_d ⟨h1, h2, h3, h4, h5⟩] at h; cases h
theorem itF_some {tx : Nat → Int} {len a : Nat} {t : Nat → Int} {P : PSt} {x : PSt × Nat × (Nat → Int)} (h : itF tx len a t P = some x) (hn : P.1 ≤ 7) (hr : P.2.2.2.2.2.1 ≤ 6) : x.1.1 ≤ 7 ∧ x.1.2.2.2.2.2.1 ≤ 6 ∧ x.2.1 ≤ len ∧ a < x.2.1 := by
  unfold itF itC at h
  cases h1 : rds tx len (numsF (sgF tx len a)) 0 (a + 1) t with
  | none => rw [h1] at h; cases h
  | some y =>
    rw [h1] at h
    dsimp only at h
    cases h2 : tellF (sgF tx len a) y.1 P with
    | none => rw [h2] at h; cases h
    | some P2 =>
      rw [h2] at h
      cases h
      have h3 := tellF_some h2 hn hr
      have h4 := rds_le _ _ _ _ _ h1
      exact ⟨h3.1, h3.2.1, h4.2 h3.2.2, by dsimp only; omega⟩
