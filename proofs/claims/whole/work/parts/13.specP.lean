/-! ===== a plan, and a text read into it ===== -/
/-- pegs: how many, kinds, lifts, quarters; winds; roofs: how many, xs, ys; the horse that begins -/
abbrev PSt : Type := Nat × (Nat → Int) × (Nat → Int) × (Nat → Int) × (Nat → Int) × Nat × (Nat → Int) × (Nat → Int) × (Nat → Int)
def plW (E : Ev) (p pK pL pQ pW pX pY pS : Nat) (P : PSt) : va_W := [(p, ob 2 [.ref pK, .ref pL, .ref pQ, .ref pW, .ref pX, .ref pY, .ref pS, .int (zz (P.1 : Int)), .int (zz (P.2.2.2.2.2.1 : Int))]), (pK, aI E 7 P.2.1), (pL, aI E 7 P.2.2.1), (pQ, aI E 7 P.2.2.2.1), (pW, aI E 10 P.2.2.2.2.1), (pX, aI E 6 P.2.2.2.2.2.2.1), (pY, aI E 6 P.2.2.2.2.2.2.2.1), (pS, hO P.2.2.2.2.2.2.2.2)]
def tellF (kind : Int) (t : Nat → Int) (P : PSt) : Option PSt := match P with
  | (np, kd, lf, qt, wd, nr, rx, ry, s) =>
    if kind = 112 then (if np < 7 ∧ t 0 < 4 ∧ t 1 < 10 ∧ t 2 ≤ 3 then some (np + 1, updI kd np (t 0), updI lf np (t 1), updI qt np (t 2), wd, nr, rx, ry, s) else none)
    else if kind = 119 then (if 1 ≤ t 0 ∧ t 0 ≤ 9 ∧ t 1 ≤ 4 then some (np, kd, lf, qt, updI wd (t 0).toNat (t 1), nr, rx, ry, s) else none)
    else if kind = 114 then (if nr < 6 ∧ t 0 ≤ 9 ∧ t 1 ≤ 9 then some (np, kd, lf, qt, wd, nr + 1, updI rx nr (t 0), updI ry nr (t 1), s) else none)
    else if kind = 98 then (if t 0 ≤ 9 ∧ t 1 ≤ 9 ∧ 1 ≤ t 2 ∧ t 2 ≤ 9 ∧ t 3 ≤ 3 then some (np, kd, lf, qt, wd, nr, rx, ry, updI (updI (updI (updI s 0 (t 0)) 1 (t 1)) 2 (t 2)) 3 (t 3)) else none)
    else if kind = 116 then (if 1 ≤ t 0 ∧ t 0 ≤ 2 then some (np, kd, lf, qt, wd, nr, rx, ry, updI s 5 (t 0)) else none)
    else none
/-- an answer that is told by whether there is something -/
def oPost {α : Type} (o : Option α) (W1 : α → va_W → Prop) (W0 : va_W → Prop) : Option Value → va_W → Prop := fun v w => match o with
  | some x => v = some (.int (zz 1)) ∧ W1 x w
  | none => v = some (.int (zz 0)) ∧ W0 w
theorem oPost_some {α : Type} {o : Option α} {W1 : α → va_W → Prop} {W0 : va_W → Prop} {x : α} {w : va_W} (h : o = some x) (hw : W1 x w) : oPost o W1 W0 (some (.int (zz 1))) w := by subst h; exact ⟨rfl, hw⟩
theorem oPost_none {α : Type} {o : Option α} {W1 : α → va_W → Prop} {W0 : va_W → Prop} {w : va_W} (h : o = none) (hw : W0 w) : oPost o W1 W0 (some (.int (zz 0))) w := by subst h; exact ⟨rfl, hw⟩
def sgF (tx : Nat → Int) (len at_ : Nat) : Int := if at_ < len then tx at_ else 0
def numsF (kind : Int) : Nat := if kind = 98 then 4 else if kind = 112 then 3 else if kind = 114 then 2 else if kind = 116 then 1 else if kind = 119 then 2 else 0
theorem numsF_le (kind : Int) : numsF kind ≤ 4 := by
  unfold numsF
  (repeat' split) <;> omega
/-- a number and what is behind it -/
def rd1 (tx : Nat → Int) (len at_ : Nat) (sep : Int) : Option (Int × Nat) :=
  if 48 ≤ sgF tx len at_ ∧ sgF tx len at_ ≤ 57 then
    if 48 ≤ sgF tx len (at_ + 1) ∧ sgF tx len (at_ + 1) ≤ 57 then (if sgF tx len (at_ + 2) = sep then some (10 * (sgF tx len at_ - 48) + (sgF tx len (at_ + 1) - 48), at_ + 3) else none)
    else (if sgF tx len (at_ + 1) = sep then some (sgF tx len at_ - 48, at_ + 2) else none)
  else none
/-- so many numbers more, from the i-th on -/
def rds (tx : Nat → Int) (len : Nat) : Nat → Nat → Nat → (Nat → Int) → Option ((Nat → Int) × Nat)
  | 0, _, at_, t => some (t, at_)
  | r + 1, i, at_, t => match rd1 tx len at_ (if r = 0 then 59 else 44) with
    | none => none
    | some x => rds tx len r (i + 1) x.2 (updI t i x.1)
/-- an item -/
def itC (tx : Nat → Int) (len : Nat) (kind : Int) (P : PSt) (r i at_ : Nat) (t : Nat → Int) : Option (PSt × Nat × (Nat → Int)) := match rds tx len r i at_ t with
  | none => none
  | some x => match tellF kind x.1 P with
    | none => none
    | some P2 => some (P2, x.2, x.1)
def itF (tx : Nat → Int) (len at_ : Nat) (t : Nat → Int) (P : PSt) : Option (PSt × Nat × (Nat → Int)) := itC tx len (sgF tx len at_) P (numsF (sgF tx len at_)) 0 (at_ + 1) t
/-- so many items at most: the fault's place or -4; the plan -/
def psF (tx : Nat → Int) (len : Nat) : Nat → Nat → (Nat → Int) → PSt → Int × PSt
  | 0, _, _, P => (-4, P)
  | f + 1, at_, t, P => if at_ < len then (match itF tx len at_ t P with
    | none => ((at_ : Int), P)
    | some x => psF tx len f x.2.1 x.2.2 x.1) else (-4, P)
def fillI (f : Nat → Int) (n : Nat) (v : Int) : Nat → Int := fun j => if j < n then v else f j
theorem fillI_0 (f : Nat → Int) (v : Int) : fillI f 0 v = f := by funext j; simp [fillI]
theorem fillI_succ (f : Nat → Int) (n : Nat) (v : Int) : updI (fillI f n v) n v = fillI f (n + 1) v := by
  funext j
  unfold updI fillI
  by_cases h : j = n
  · subst h; simp
  · by_cases h2 : j < n
    · rw [if_neg h, if_pos h2, if_pos (by omega)]
    · rw [if_neg h, if_neg h2, if_neg (by omega)]
def clrF (P : PSt) : PSt := match P with
  | (_, kd, lf, qt, wd, _, rx, ry, s) => (0, kd, lf, qt, fillI wd 10 4, 0, rx, ry, updI (updI (updI (updI (updI s 0 5) 1 5) 2 3) 3 0) 5 1)
def nmOK (t : Nat → Int) : Prop := ∀ j, j < 4 → -1 ≤ t j ∧ t j ≤ 99
def txOK (tx : Nat → Int) (len : Nat) : Prop := len ≤ 200 ∧ ∀ j, j < len → 0 ≤ tx j ∧ tx j < 65536
theorem sgF_rg {tx : Nat → Int} {len at_ : Nat} (h : txOK tx len) : 0 ≤ sgF tx len at_ ∧ sgF tx len at_ < 65536 := by
  unfold sgF
  split
  · exact h.2 _ (by assumption)
  · omega
def fdF (kd : Nat → Int) : Nat → Nat → Int
  | 0, _ => -4
  | n + 1, k => if kd k = 1 then (k : Int) else fdF kd n (k + 1)
