/-! ===== shelves and sightings ===== -/
def rot8 {α : Type} (u : Nat → α) : Nat → α := fun i => if i = 7 then u 0 else if i < 7 then u (i + 1) else u i
def updG {α : Type} (g : Nat → α) (k : Nat) (h : α) : Nat → α := fun i => if i = k then h else g i
def shW8 (E : Ev) (f ar : Nat) (u : Nat → Nat) (g : Nat → Nat → Int) (sz : Nat) : va_W := [(f, ob 4 [.ref ar, .int (zz (sz : Int))]), (ar, aH E 8 (fun i => some (u i))), (u 0, hO (g 0)), (u 1, hO (g 1)), (u 2, hO (g 2)), (u 3, hO (g 3)), (u 4, hO (g 4)), (u 5, hO (g 5)), (u 6, hO (g 6)), (u 7, hO (g 7))]
def shW2 (E : Ev) (f ar : Nat) (u : Nat → Nat) (g : Nat → Nat → Int) (sz : Nat) : va_W := [(f, ob 4 [.ref ar, .int (zz (sz : Int))]), (ar, aH E 2 (fun i => some (u i))), (u 0, hO (g 0)), (u 1, hO (g 1))]
theorem rot8_fn (u : Nat → Nat) : va_up (va_up (va_up (va_up (va_up (va_up (va_up (va_up (fun i => some (u i)) 0 (some (u 1))) 1 (some (u 2))) 2 (some (u 3))) 3 (some (u 4))) 4 (some (u 5))) 5 (some (u 6))) 6 (some (u 7))) 7 (some (u 0)) = fun i => some (rot8 u i) := by
  funext i
  match i with
  | 0 => rfl
  | 1 => rfl
  | 2 => rfl
  | 3 => rfl
  | 4 => rfl
  | 5 => rfl
  | 6 => rfl
  | 7 => rfl
  | i + 8 =>
    have e : rot8 u (i + 8) = u (i + 8) := by
      unfold rot8
      rw [if_neg (by omega), if_neg (by omega)]
    rw [e]
    unfold va_up
    simp
/-- behind a put: the older ones, and this one -/
def putG (g : Nat → Nat → Int) (sz : Nat) (h : Nat → Int) : Nat → Nat → Int := if sz < 8 then updG g sz h else updG (rot8 g) 7 h
def putN (sz : Nat) : Nat := if sz < 8 then sz + 1 else 8
/-- what was seen of a peg that would not be so -/
def notF (sp sc sv : Nat → Int) (p k u : Int) : Nat → Bool := fun i => decide (sp i = p ∧ ¬ liftF k u (sc i) false 1 = sv i)
def sOK (ns : Nat) (sp sc sv : Nat → Int) : Prop := ns ≤ 6 ∧ ∀ i, i < ns → (0 ≤ sp i ∧ sp i < 7) ∧ (0 ≤ sc i ∧ sc i ≤ 3) ∧ (-18 ≤ sv i ∧ sv i ≤ 18)
