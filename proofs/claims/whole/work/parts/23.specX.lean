/-! ===== the answers ===== -/
def pegA (np : Nat) (kd lf qt h : Nat → Int) (p w : Int) : Int := if 0 ≤ p ∧ p < (np : Int) then (if w = 0 then kd p.toNat else if w = 1 then lf p.toNat else if w = 2 then qt p.toNat else if w = 3 then liftF (kd p.toNat) (lf p.toNat) (h 3) (dblF np kd (h 6)) (h 5) + 20 else if w = 4 then quartF (kd p.toNat) (qt p.toNat) (h 3) else -1) else -1
def windA (wd : Nat → Int) (h : Int) : Int := if 1 ≤ h ∧ h ≤ 9 then wd h.toNat else -1
def roofA (nr : Nat) (rx ry : Nat → Int) (r w : Int) : Int := if (0 ≤ r ∧ r < (nr : Int)) ∧ 0 ≤ w ∧ w ≤ 1 then (if w = 0 then rx r.toNat else ry r.toNat) else -1
def landF (nr : Nat) (rx ry h : Nat → Int) : Bool := decide (h 2 = 0) && anyTo (roofF rx ry (h 0) (h 1)) nr
def fallF (nr : Nat) (rx ry h : Nat → Int) : Bool := decide (h 2 = 0) && !anyTo (roofF rx ry (h 0) (h 1)) nr
def nowA (nr : Nat) (rx ry h : Nat → Int) (w : Int) : Int := if w = 0 then h 0 else if w = 1 then h 1 else if w = 2 then h 2 else if w = 3 then h 3 else if w = 4 then h 4 else if w = 5 then h 5 else if w = 6 then bI (landF nr rx ry h) else if w = 7 then bI (fallF nr rx ry h) else if w = 8 then h 6 else -1
def countA (np nr ns sz sz2 len : Nat) (w : Int) : Int := if w = 0 then (np : Int) else if w = 1 then (nr : Int) else if w = 2 then (ns : Int) else if w = 3 then (sz : Int) else if w = 4 then (sz2 : Int) else if w = 5 then (len : Int) else -1
