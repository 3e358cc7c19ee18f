/-! ===== the reference: its own functions ===== -/
def mOK (np : Nat) (nw : Nat → Int) : Prop := (0 ≤ nw 0 ∧ nw 0 ≤ 9) ∧ (0 ≤ nw 1 ∧ nw 1 ≤ 9) ∧ (0 ≤ nw 2 ∧ nw 2 ≤ 9) ∧ (0 ≤ nw 3 ∧ nw 3 ≤ 3) ∧ (1 ≤ nw 5 ∧ nw 5 ≤ 2) ∧ (-1 ≤ nw 6 ∧ nw 6 < (np : Int))
def pgOK (np : Nat) (pg wn : Nat → Int) : Prop := np ≤ 7 ∧ (∀ k, k < np → (0 ≤ pg (3 * k) ∧ pg (3 * k) ≤ 3) ∧ (0 ≤ pg (3 * k + 1) ∧ pg (3 * k + 1) ≤ 9) ∧ (0 ≤ pg (3 * k + 2) ∧ pg (3 * k + 2) ≤ 3)) ∧ (∀ k, k < 10 → 0 ≤ wn k ∧ wn k ≤ 4)
def roOK (nr : Nat) (ro : Nat → Int) : Prop := nr ≤ 6 ∧ ∀ k, k < nr → (0 ≤ ro (2 * k) ∧ ro (2 * k) ≤ 9) ∧ (0 ≤ ro (2 * k + 1) ∧ ro (2 * k + 1) ≤ 9)
def dbM (pg : Nat → Int) (a : Int) : Bool := decide (0 ≤ a) && decide (pg (3 * a.toNat) = 1)
def quM (k t c : Int) : Int := if k = 2 ∧ 2 ≤ c then (4 - t) % 4 else t
theorem quM_rg {k t c : Int} (h : 0 ≤ t ∧ t ≤ 3) : 0 ≤ quM k t c ∧ quM k t c ≤ 3 := by
  unfold quM
  split <;> omega
def flF (wn nw : Nat → Int) : Nat → Int := updI (stp (stp nw (nw 3)) (windF wn (nw 2))) 4 (nw 4 + 1)
theorem stp_mok {np : Nat} {nw : Nat → Int} {d : Int} (h : mOK np nw) : mOK np (stp nw d) := ⟨clampI_rg (by omega), clampI_rg (by omega), h.2.2.1, h.2.2.2.1, h.2.2.2.2.1, h.2.2.2.2.2⟩
theorem flF_mok {np : Nat} {wn nw : Nat → Int} (h : mOK np nw) : mOK np (flF wn nw) := by
  have h2 := stp_mok (d := windF wn (nw 2)) (stp_mok (d := nw 3) h)
  exact ⟨h2.1, h2.2.1, h2.2.2.1, h2.2.2.2.1, h2.2.2.2.2.1, h2.2.2.2.2.2⟩
def tnM (pg wn nw : Nat → Int) (p : Nat) : Nat → Int := updI (flF wn (updI (updI nw 2 (clampI (nw 2 + liftF (pg (3 * p)) (pg (3 * p + 1)) (nw 3) (dbM pg (nw 6)) (nw 5)) 9)) 3 ((nw 3 + quM (pg (3 * p)) (pg (3 * p + 2)) (nw 3)) % 4))) 6 (p : Int)
theorem mid_mok {np : Nat} {nw : Nat → Int} {L Q : Int} (h : mOK np nw) : mOK np (updI (updI nw 2 (clampI (nw 2 + L) 9)) 3 ((nw 3 + Q) % 4)) := ⟨h.1, h.2.1, clampI_rg (by omega), by show 0 ≤ (nw 3 + Q) % 4 ∧ (nw 3 + Q) % 4 ≤ 3; omega, h.2.2.2.2.1, h.2.2.2.2.2⟩
theorem tnM_mok {np : Nat} {pg wn nw : Nat → Int} {p : Nat} (h : mOK np nw) (hp : p < np) : mOK np (tnM pg wn nw p) := by
  have h2 := flF_mok (wn := wn) (mid_mok (L := liftF (pg (3 * p)) (pg (3 * p + 1)) (nw 3) (dbM pg (nw 6)) (nw 5)) (Q := quM (pg (3 * p)) (pg (3 * p + 2)) (nw 3)) h)
  exact ⟨h2.1, h2.2.1, h2.2.2.1, h2.2.2.2.1, h2.2.2.2.2.1, by show -1 ≤ (p : Int) ∧ (p : Int) < np; omega⟩
theorem windF_rgM {np : Nat} {pg wn : Nat → Int} (hp : pgOK np pg wn) (h : Int) : 0 ≤ windF wn h ∧ windF wn h ≤ 4 := by
  unfold windF
  split
  · omega
  · exact hp.2.2 _ (by omega)
def ovM (ro : Nat → Int) (x y : Int) : Nat → Bool := fun r => decide (ro (2 * r) = x ∧ ro (2 * r + 1) = y)
def laM (nr : Nat) (ro nw : Nat → Int) : Bool := decide (nw 2 = 0) && anyTo (ovM ro (nw 0) (nw 1)) nr
def lgM (tx : Nat → Int) (len a : Nat) : Int := if a < len then tx a else -1
/-- a row of n put at a, out of another from b on -/
def cpI (f : Nat → Int) (a : Nat) (g : Nat → Int) (b n : Nat) : Nat → Int := fun j => if a ≤ j ∧ j < a + n then g (b + (j - a)) else f j
theorem cpI_0 (f : Nat → Int) (a : Nat) (g : Nat → Int) (b : Nat) : cpI f a g b 0 = f := by
  funext j
  unfold cpI
  rw [if_neg (by omega)]
theorem cpI_s (f : Nat → Int) (a : Nat) (g : Nat → Int) (b n : Nat) : updI (cpI f a g b n) (a + n) (g (b + n)) = cpI f a g b (n + 1) := by
  funext j
  unfold updI cpI
  by_cases h : j = a + n
  · subst h
    rw [if_pos rfl, if_pos (by omega), show a + n - a = n by omega]
  · rw [if_neg h]
    by_cases h2 : a ≤ j ∧ j < a + n
    · rw [if_pos h2, if_pos (by omega)]
    · rw [if_neg h2, if_neg (by omega)]
def AG (n : Nat) (f g : Nat → Int) : Prop := ∀ i, i < n → f i = g i
theorem AG.mok {np : Nat} {f g : Nat → Int} (h : AG 7 f g) (hg : mOK np g) : mOK np f := by
  unfold mOK
  rw [h 0 (by omega), h 1 (by omega), h 2 (by omega), h 3 (by omega), h 5 (by omega), h 6 (by omega)]
  exact hg
theorem cpI_all {f g : Nat → Int} {n i : Nat} (hi : i < n) : cpI f 0 g 0 n i = g i := by
  unfold cpI
  rw [if_pos (by omega)]
  congr 1
  omega
