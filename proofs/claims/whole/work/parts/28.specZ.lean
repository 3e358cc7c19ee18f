/-! ===== chances, ways ===== -/
def gcdF : Nat → Nat → Nat → Nat
  | 0, a, _ => a
  | f + 1, a, b => if b = 0 then a else gcdF f b (a % b)
theorem gcdF_le : ∀ (f a b m : Nat), a ≤ m → b ≤ m → gcdF f a b ≤ m
  | 0, a, b, m, h, _ => h
  | f + 1, a, b, m, h, h2 => by
    rw [gcdF]
    split
    · exact h
    · exact gcdF_le f b (a % b) m h2 (Nat.le_trans (Nat.mod_le a b) h)
theorem gcdF_pos : ∀ (f a b : Nat), 0 < a ∨ (0 < f ∧ 0 < b) → 0 < b ∨ 0 < a → (0 < a ∧ b = 0) ∨ (0 < f ∧ 0 < b) ∨ (f = 0 ∧ 0 < a) → 0 < gcdF f a b
  | 0, a, b, _, _, h3 => by
    rw [gcdF]
    omega
  | f + 1, a, b, _, _, h3 => by
    rw [gcdF]
    split
    · omega
    · rename_i hb
      rcases Nat.eq_zero_or_pos f with e | e
      · subst e; rw [gcdF]; omega
      · rcases Nat.eq_zero_or_pos (a % b) with z | z
        · exact gcdF_pos f b (a % b) (by omega) (by omega) (by omega)
        · exact gcdF_pos f b (a % b) (by omega) (by omega) (by omega)
def sumTo (c : Nat → Nat) : Nat → Nat
  | 0 => 0
  | n + 1 => sumTo c n + c n
theorem sumTo_le {c : Nat → Nat} {m : Nat} : ∀ {n : Nat}, (∀ k, k < n → c k ≤ m) → sumTo c n ≤ n * m
  | 0, _ => by rw [sumTo]; omega
  | n + 1, h => by
    have h1 := sumTo_le (n := n) (fun k hk => h k (by omega))
    have h2 := h n (by omega)
    rw [sumTo, Nat.succ_mul]
    omega
/-- of all rows of so many pegs from a place, by how many it has landed -/
def lndF (nx : Nat → Nat → Nat) (lp : Nat → Bool) (np : Nat) : Nat → Nat → Nat
  | 0, pl => if pl / 800 = 0 then (if lp pl then np ^ 0 else 0) else 0
  | l + 1, pl => if pl / 800 = 0 then (if lp pl then np ^ (l + 1) else 0) else sumTo (fun p => lndF nx lp np l (nx pl p)) np
theorem lndF_le (nx : Nat → Nat → Nat) (lp : Nat → Bool) (np : Nat) : ∀ (l pl : Nat), lndF nx lp np l pl ≤ np ^ l
  | 0, pl => by rw [lndF]; split <;> (try split) <;> simp
  | l + 1, pl => by
    rw [lndF]
    split
    · split
      · exact Nat.le_refl _
      · exact Nat.zero_le _
    · have h := sumTo_le (c := fun p => lndF nx lp np l (nx pl p)) (m := np ^ l) (n := np) (fun k _ => lndF_le nx lp np l _)
      rw [Nat.pow_succ, Nat.mul_comm]
      exact h
/-- whether it has landed at a place -/
def lpF (nr : Nat) (rx ry : Nat → Int) (pl : Nat) : Bool := anyTo (roofF rx ry (((pl / 8 : Nat) : Int) % 10) (((pl / 8 : Nat) : Int) / 10 % 10)) nr
theorem pow_le5 {np n : Nat} (h : np ≤ 7) (hn : n ≤ 5) : np ^ n ≤ 16807 := by
  have h1 : np ^ n ≤ 7 ^ n := Nat.pow_le_pow_left h n
  have h2 : 7 ^ n ≤ 7 ^ 5 := Nat.pow_le_pow_right (by omega) hn
  have h3 : (7 : Nat) ^ 5 = 16807 := by decide
  omega
def likA (A B : Nat) (w : Int) : Int := if w = 0 then ((A / gcdF 64 A B : Nat) : Int) else ((B / gcdF 64 A B : Nat) : Int)
/-- the k-th peg of a path of so many turns -/
def pgF (pa : Nat) (t : Nat) (k : Int) : Int := if k < (t : Int) then ((pa / 8 ^ (t - 1 - k.toNat) % 8 : Nat) : Int) else -4
def wyF (nx : Nat → Nat → Nat) (np : Nat) (x y k : Int) : Nat → Nat → Qu → Nat → Int
  | 0, _, _, _ => -4
  | n + 1, t, Q, fr => if 0 ≤ ptF Q x y (Q.length - fr) fr then (if k < 0 then (t : Int) else pgF (ptF Q x y (Q.length - fr) fr).toNat t k) else wyF nx np x y k n (t + 1) (grF nx np (Q.length - fr) fr Q) Q.length
def rfB (rx ry : Nat → Int) (nr : Nat) (Q : Qu) (fr : Nat) : Nat := bitsTo (fun r => decide (0 ≤ ptF Q (rx r) (ry r) (Q.length - fr) fr)) nr
def neF (nx : Nat → Nat → Nat) (np nr : Nat) (rx ry : Nat → Int) : Nat → Qu → Nat → Nat → Nat
  | 0, _, _, acc => acc
  | n + 1, Q, fr, acc => neF nx np nr rx ry n (grF nx np (Q.length - fr) fr Q) Q.length (acc ||| rfB rx ry nr (grF nx np (Q.length - fr) fr Q) Q.length)
theorem exF_len (nx : Nat → Nat → Nat) (e : Nat × Nat) : ∀ (n p : Nat) (Q : Qu), Q.length ≤ (exF nx e n p Q).length
  | 0, p, Q => Nat.le_refl _
  | n + 1, p, Q => by rw [exF]; exact Nat.le_trans mtF_len (exF_len nx e n (p + 1) _)
theorem grF_len (nx : Nat → Nat → Nat) (np : Nat) : ∀ (n i : Nat) (Q : Qu), Q.length ≤ (grF nx np n i Q).length
  | 0, i, Q => Nat.le_refl _
  | n + 1, i, Q => by
    rw [grF]
    split
    · exact Nat.le_trans (exF_len nx _ np 0 Q) (grF_len nx np n (i + 1) _)
    · exact grF_len nx np n (i + 1) Q
theorem exF_bd (nx : Nat → Nat → Nat) (e : Nat × Nat) (m : Nat) : ∀ (n p : Nat) (Q : Qu), p + n ≤ 8 → 8 * e.1 + 7 < m → (∀ q ∈ Q, q.1 < m) → ∀ q ∈ exF nx e n p Q, q.1 < m
  | 0, p, Q, _, _, h => h
  | n + 1, p, Q, h1, h2, h => by
    rw [exF]
    refine exF_bd nx e m n (p + 1) _ (by omega) h2 (fun q hq => ?_)
    rcases mtF_mem hq with z | z
    · exact h q z
    · rw [z]
      show 8 * e.1 + p < m
      omega
theorem exF_getD (nx : Nat → Nat → Nat) (e : Nat × Nat) {j : Nat} : ∀ (n p : Nat) (Q : Qu), j < Q.length → (exF nx e n p Q).getD j (0, 0) = Q.getD j (0, 0)
  | 0, p, Q, _ => rfl
  | n + 1, p, Q, h => by
    rw [exF, exF_getD nx e n (p + 1) _ (Nat.lt_of_lt_of_le h mtF_len), mtF_getD h]
theorem grF_bd (nx : Nat → Nat → Nat) (np m : Nat) (hn : np ≤ 8) : ∀ (n i : Nat) (Q : Qu), i + n ≤ Q.length → (∀ j, j < i + n → 8 * (Q.getD j (0, 0)).1 + 7 < m) → (∀ q ∈ Q, q.1 < m) → ∀ q ∈ grF nx np n i Q, q.1 < m
  | 0, i, Q, _, _, h => h
  | n + 1, i, Q, hl, h1, h => by
    rw [grF]
    split
    · refine grF_bd nx np m hn n (i + 1) _ (Nat.le_trans (by omega) (exF_len nx _ np 0 Q)) (fun j hj => ?_) (exF_bd nx _ m np 0 Q (by omega) (h1 i (by omega)) h)
      rw [exF_getD nx _ np 0 Q (by omega)]
      exact h1 j (by omega)
    · exact grF_bd nx np m hn n (i + 1) Q (by omega) (fun j hj => h1 j (by omega)) h
theorem grF_step {nx : Nat → Nat → Nat} {np t fr : Nat} {Q : Qu} (hn : np ≤ 8) (hf : fr ≤ Q.length) (h : ∀ e ∈ Q, e.1 < 8 ^ t) : ∀ e ∈ grF nx np (Q.length - fr) fr Q, e.1 < 8 ^ (t + 1) := by
  refine grF_bd nx np _ hn _ _ _ (by omega) (fun j hj => ?_) (fun q hq => ?_)
  · have h1 := h _ (List.mem_of_getElem? (Q_at (Q := Q) (i := j) (by omega)))
    rw [Nat.pow_succ]
    omega
  · have h1 := h q hq
    rw [Nat.pow_succ]
    omega
