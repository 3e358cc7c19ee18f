/-! ===== what the methods answer and do, as functions ===== -/
def clampI (v m : Int) : Int := if v < 0 then 0 else if m < v then m else v
theorem clampI_rg {v m : Int} (hm : 0 ≤ m) : 0 ≤ clampI v m ∧ clampI v m ≤ m := by
  unfold clampI
  split
  · omega
  · split <;> omega
/-- a Horse: x, y, height, course, hours, riders, ahead -/
abbrev hO (h : Nat → Int) : va_E := ob 0 [.int (zz (h 0)), .int (zz (h 1)), .int (zz (h 2)), .int (zz (h 3)), .int (zz (h 4)), .int (zz (h 5)), .int (zz (h 6))]
def eastw (d : Int) : Int := if d = 1 then 1 else if d = 3 then -1 else 0
def southw (d : Int) : Int := if d = 2 then 1 else if d = 0 then -1 else 0
theorem fE_at {k : Nat} : fE k = .int (zz (eastw (k : Int))) := by
  match k with
  | 0 => rfl
  | 1 => rfl
  | 2 => rfl
  | 3 => rfl
  | k + 4 =>
    have e : eastw ((k + 4 : Nat) : Int) = 0 := by unfold eastw; rw [if_neg (by omega), if_neg (by omega)]
    rw [e]
    rfl
theorem fS_at {k : Nat} : fS k = .int (zz (southw (k : Int))) := by
  match k with
  | 0 => rfl
  | 1 => rfl
  | 2 => rfl
  | k + 3 =>
    have e : southw ((k + 3 : Nat) : Int) = 0 := by unfold southw; rw [if_neg (by omega), if_neg (by omega)]
    rw [e]
    rfl
theorem eastw_rg (d : Int) : -1 ≤ eastw d ∧ eastw d ≤ 1 := by
  unfold eastw
  split
  · omega
  · split <;> omega
theorem southw_rg (d : Int) : -1 ≤ southw d ∧ southw d ≤ 1 := by
  unfold southw
  split
  · omega
  · split <;> omega
/-- one step to a side, never beyond 0 or 9 -/
def stp (h : Nat → Int) (d : Int) : Nat → Int := updI (updI h 0 (clampI (h 0 + eastw d) 9)) 1 (clampI (h 1 + southw d) 9)
def hOK (h : Nat → Int) : Prop := (0 ≤ h 0 ∧ h 0 ≤ 9) ∧ (0 ≤ h 1 ∧ h 1 ≤ 9) ∧ (0 ≤ h 2 ∧ h 2 ≤ 9) ∧ (0 ≤ h 3 ∧ h 3 ≤ 3) ∧ (1 ≤ h 5 ∧ h 5 ≤ 2) ∧ (-4 ≤ h 6 ∧ h 6 < 7)
def pOK (np : Nat) (kd lf qt wd : Nat → Int) : Prop := np ≤ 7 ∧ (∀ k, k < np → (0 ≤ kd k ∧ kd k ≤ 3) ∧ (0 ≤ lf k ∧ lf k ≤ 9) ∧ (0 ≤ qt k ∧ qt k ≤ 3)) ∧ (∀ k, k < 10 → 0 ≤ wd k ∧ wd k ≤ 4)
theorem stp_ok {h : Nat → Int} {d : Int} (ho : hOK h) : hOK (stp h d) :=
  ⟨clampI_rg (by omega), clampI_rg (by omega), ho.2.2.1, ho.2.2.2.1, ho.2.2.2.2.1, ho.2.2.2.2.2⟩
def windF (wd : Nat → Int) (h : Int) : Int := if h < 1 ∨ 9 < h then 4 else wd h.toNat
theorem windF_rg {np : Nat} {kd lf qt wd : Nat → Int} (hp : pOK np kd lf qt wd) (h : Int) : 0 ≤ windF wd h ∧ windF wd h ≤ 4 := by
  unfold windF
  split
  · omega
  · exact hp.2.2 _ (by omega)
def anyTo (c : Nat → Bool) : Nat → Bool
  | 0 => false
  | n + 1 => anyTo c n || c n
theorem anyTo_no {c : Nat → Bool} : ∀ {n : Nat}, (∀ k, k < n → c k = false) → anyTo c n = false
  | 0, _ => rfl
  | n + 1, h => by rw [anyTo, anyTo_no (fun k hk => h k (by omega)), h n (by omega)]; rfl
theorem anyTo_yes {c : Nat → Bool} {k : Nat} (hc : c k = true) : ∀ {n : Nat}, k < n → anyTo c n = true
  | 0, h => absurd h (Nat.not_lt_zero k)
  | n + 1, h => by
    rw [anyTo]
    rcases Nat.lt_or_ge k n with q | q
    · rw [anyTo_yes hc q]; rfl
    · rw [show n = k by omega, hc, Bool.or_true]
def roofF (rx ry : Nat → Int) (x y : Int) : Nat → Bool := fun r => decide (rx r = x ∧ ry r = y)
def rOK (nr : Nat) (rx ry : Nat → Int) : Prop := nr ≤ 6 ∧ ∀ k, k < nr → (0 ≤ rx k ∧ rx k ≤ 9) ∧ (0 ≤ ry k ∧ ry k ≤ 9)
def liftF (k u c : Int) (b : Bool) (r : Int) : Int := if k = 1 then (if b then 2 * (u - 5) else u - 5) else if k = 2 then (if 2 ≤ c then -(u - 5) else u - 5) else if k = 3 then (if r = 2 then u - 5 - 2 else u - 5) else u - 5
theorem liftF_rg {k u c r : Int} {b : Bool} (hu : 0 ≤ u ∧ u ≤ 9) : -10 ≤ liftF k u c b r ∧ liftF k u c b r ≤ 10 := by
  unfold liftF
  (repeat' split) <;> omega
def dblF (np : Nat) (kd : Nat → Int) (p : Int) : Bool := decide (0 ≤ p ∧ p < (np : Int)) && decide (kd p.toNat = 1)
def quartF (k t c : Int) : Int := if k = 2 ∧ 2 ≤ c then (-t) % 4 else t % 4
theorem quartF_rg (k t c : Int) : 0 ≤ quartF k t c ∧ quartF k t c ≤ 3 := by
  unfold quartF
  split <;> omega
/-- an hour without a turn -/
def glF (wd h : Nat → Int) : Nat → Int := updI (updI (stp (stp h (h 3)) (windF wd (h 2))) 4 (h 4 + 1)) 6 (-4)
theorem glF_ok {wd h : Nat → Int} (ho : hOK h) : hOK (glF wd h) := by
  have h2 := stp_ok (d := windF wd (h 2)) (stp_ok (d := h 3) ho)
  exact ⟨h2.1, h2.2.1, h2.2.2.1, h2.2.2.2.1, h2.2.2.2.2.1, by show -4 ≤ (-4 : Int) ∧ (-4 : Int) < 7; omega⟩
/-- a turn: lifted by L, turned by Q quarters; its peg p is ahead then -/
def tnV (L Q : Int) (wd h : Nat → Int) (p : Int) : Nat → Int := updI (glF wd (updI (updI h 2 (clampI (h 2 + L) 9)) 3 ((h 3 + Q) % 4))) 6 p
theorem tnV_ok {L Q p : Int} {wd h : Nat → Int} (ho : hOK h) (hp : 0 ≤ p ∧ p < 7) : hOK (tnV L Q wd h p) := by
  have h1 : hOK (updI (updI h 2 (clampI (h 2 + L) 9)) 3 ((h 3 + Q) % 4)) := ⟨ho.1, ho.2.1, clampI_rg (by omega), by show 0 ≤ (h 3 + Q) % 4 ∧ (h 3 + Q) % 4 ≤ 3; omega, ho.2.2.2.2.1, ho.2.2.2.2.2⟩
  have h2 := glF_ok (wd := wd) h1
  exact ⟨h2.1, h2.2.1, h2.2.2.1, h2.2.2.2.1, h2.2.2.2.2.1, by show -4 ≤ p ∧ p < 7; omega⟩
def tnF (np : Nat) (kd lf qt wd h : Nat → Int) (p : Nat) : Nat → Int := tnV (liftF (kd p) (lf p) (h 3) (dblF np kd (h 6)) (h 5)) (quartF (kd p) (qt p) (h 3)) wd h (p : Int)
theorem tnF_ok {np : Nat} {kd lf qt wd h : Nat → Int} {p : Nat} (hp : pOK np kd lf qt wd) (ho : hOK h) (hpn : p < np) : hOK (tnF np kd lf qt wd h p) := tnV_ok ho (by have := hp.1; omega)
