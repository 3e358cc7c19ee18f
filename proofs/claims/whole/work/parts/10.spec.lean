/-! ===== what the methods answer and do, as functions ===== -/
def clampI (v m : Int) : Int := if v < 0 then 0 else if m < v then m else v
theorem clampI_rg {v m : Int} (hm : 0 ≤ m) : 0 ≤ clampI v m ∧ clampI v m ≤ m := by
  unfold clampI
  split
  · omega
  · split <;> omega
/-- a Horse: x, y, height, course, hours, riders, ahead -/
abbrev hO (h : Nat → Int) : va_E := ob 0 [.int (zz (h 0)), .int (zz (h 1)), .int (zz (h 2)), .int (zz (h 3)), .int (zz (h 4)), .int (zz (h 5)), .int (zz (h 6))]
def eastw (d : Int) : Int := if d = 1 then 1 else if d = 3 then -1 else 0
def southw (d : Int) : Int := if d = 2 then 1 else if d = 0 then -1 else 0
theorem fE_at {k : Nat} : fE k = .int (zz (eastw (k : Int))) := by
  match k with
  | 0 => rfl
  | 1 => rfl
  | 2 => rfl
  | 3 => rfl
  | k + 4 =>
    have e : eastw ((k + 4 : Nat) : Int) = 0 := by unfold eastw; rw [if_neg (by omega), if_neg (by omega)]
    rw [e]
    rfl
theorem fS_at {k : Nat} : fS k = .int (zz (southw (k : Int))) := by
  match k with
  | 0 => rfl
  | 1 => rfl
  | 2 => rfl
  | k + 3 =>
    have e : southw ((k + 3 : Nat) : Int) = 0 := by unfold southw; rw [if_neg (by omega), if_neg (by omega)]
    rw [e]
    rfl
theorem eastw_rg (d : Int) : -1 ≤ eastw d ∧ eastw d ≤ 1 := by
  unfold eastw
  split
  · omega
  · split <;> omega
theorem southw_rg (d : Int) : -1 ≤ southw d ∧ southw d ≤ 1 := by
  unfold southw
  split
  · omega
  · split <;> omega
/-- one step to a side, never beyond 0 or 9 -/
def stp (h : Nat → Int) (d : Int) : Nat → Int := updI (updI h 0 (clampI (h 0 + eastw d) 9)) 1 (clampI (h 1 + southw d) 9)
