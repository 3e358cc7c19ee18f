/-! ===== longs by integers ===== -/
def ll (z : Int) : Int64 := Int64.ofInt z
theorem ll_nat (n : Nat) : ll (n : Int) = lN n := rfl
theorem ll_i2l {a : Int} (h : -2147483648 ≤ a ∧ a < 2147483648) : (zz a).toInt64 = ll a := by
  apply Int64.toInt_inj.1
  have e : a.bmod (2 ^ 64) = a := by rw [Int.bmod_eq_of_le (by omega) (by omega)]
  rw [Int32.toInt_toInt64, zz_toInt h]
  show a = (Int64.ofInt a).toInt
  rw [Int64.toInt_ofInt]
  exact e.symm
theorem ll_add (a b : Int) : ll a + ll b = ll (a + b) := (Int64.ofInt_add a b).symm
theorem ll_mul (a b : Int) : ll a * ll b = ll (a * b) := (Int64.ofInt_mul a b).symm
theorem ll_div {a b : Int} (ha : 0 ≤ a ∧ a < 9223372036854775808) (hb : 0 < b ∧ b < 9223372036854775808) : ll a / ll b = ll (a / b) := by
  obtain ⟨n, rfl⟩ : ∃ n : Nat, a = (n : Int) := ⟨a.toNat, by omega⟩
  obtain ⟨m, rfl⟩ : ∃ m : Nat, b = (m : Int) := ⟨b.toNat, by omega⟩
  rw [ll_nat, ll_nat, pk_lDiv (by omega) (by omega) (by omega), ← ll_nat, Int.natCast_ediv]
theorem ll_rem {a b : Int} (ha : 0 ≤ a ∧ a < 9223372036854775808) (hb : 0 < b ∧ b < 9223372036854775808) : ll a - ll a / ll b * ll b = ll (a % b) := by
  obtain ⟨n, rfl⟩ : ∃ n : Nat, a = (n : Int) := ⟨a.toNat, by omega⟩
  obtain ⟨m, rfl⟩ : ∃ m : Nat, b = (m : Int) := ⟨b.toNat, by omega⟩
  rw [ll_nat, ll_nat, pk_lRem (by omega) (by omega) (by omega), ← ll_nat, Int.natCast_emod]
theorem ll_ne0 {b : Int} (hb : 0 < b ∧ b < 9223372036854775808) : ¬ ll b = 0 := by
  intro h
  obtain ⟨m, rfl⟩ : ∃ m : Nat, b = (m : Int) := ⟨b.toNat, by omega⟩
  have h2 : lN m = lN 0 := h
  rw [pk_lEQ (by omega) (by omega)] at h2
  omega
theorem ll_l2i {a : Int} (ha : 0 ≤ a ∧ a < 2147483648) : (ll a).toInt32 = zz a := by
  obtain ⟨n, rfl⟩ : ∃ n : Nat, a = (n : Int) := ⟨a.toNat, by omega⟩
  rw [ll_nat, zz_nat]
  exact lN_i n
section RULES4
variable {E : Ev} {M : Mt} {d kc ks pc : Nat} {lv lv2 : List (Nat × Value)} {st : List Value} {ws ws2 : va_W} {post : Option Value → va_W → Prop}
theorem rr_i2l {a : Int} (hd : decode M.2.1 pc = .ok (.i2l, 1)) (ha : -2147483648 ≤ a ∧ a < 2147483648) (K : RR E M d kc ks (pc + 1) lv (.long (ll a) :: st) ws post) : RR E M d kc ks pc lv (.int (zz a) :: st) ws post := rr_i2lX hd (ll_i2l ha) K
theorem rr_l2i {a : Int} (hd : decode M.2.1 pc = .ok (.l2i, 1)) (ha : 0 ≤ a ∧ a < 2147483648) (K : RR E M d kc ks (pc + 1) lv (.int (zz a) :: st) ws post) : RR E M d kc ks pc lv (.long (ll a) :: st) ws post := rr_l2iX hd (ll_l2i ha) K
theorem rr_ladd {a b : Int} (hd : decode M.2.1 pc = .ok (.ladd, 1)) (K : RR E M d kc ks (pc + 1) lv (.long (ll (a + b)) :: st) ws post) : RR E M d kc ks pc lv (.long (ll b) :: .long (ll a) :: st) ws post := rr_laddX hd (ll_add a b) K
theorem rr_lmul {a b : Int} (hd : decode M.2.1 pc = .ok (.lmul, 1)) (K : RR E M d kc ks (pc + 1) lv (.long (ll (a * b)) :: st) ws post) : RR E M d kc ks pc lv (.long (ll b) :: .long (ll a) :: st) ws post := rr_lmulX hd (ll_mul a b) K
theorem rr_lrem {a b : Int} (hd : decode M.2.1 pc = .ok (.lrem, 1)) (ha : 0 ≤ a ∧ a < 9223372036854775808) (hb : 0 < b ∧ b < 9223372036854775808) (K : RR E M d kc ks (pc + 1) lv (.long (ll (a % b)) :: st) ws post) : RR E M d kc ks pc lv (.long (ll b) :: .long (ll a) :: st) ws post := rr_lremX hd (ll_ne0 hb) (ll_rem ha hb) K
theorem rr_ldiv {a b : Int} (hd : decode M.2.1 pc = .ok (.ldiv, 1)) (ha : 0 ≤ a ∧ a < 9223372036854775808) (hb : 0 < b ∧ b < 9223372036854775808) (K : RR E M d kc ks (pc + 1) lv (.long (ll (a / b)) :: st) ws post) : RR E M d kc ks pc lv (.long (ll b) :: .long (ll a) :: st) ws post := rr_ldivX hd (ll_ne0 hb) (ll_div ha hb) K
theorem rr_lcon {z : Int} {v : Int64} {idx : Nat} (hd : decode M.2.1 pc = .ok (.ldc2_w idx, 3)) (hw : Cond.constantLong M.1.cls idx v ∈ gW) (hv : v = ll z) (K : RR E M d kc ks (pc + 3) lv (.long (ll z) :: st) ws post) : RR E M d kc ks pc lv st ws post := rr_ldc2 hd hw (by rw [hv]; exact K)
end RULES4
/-! ===== what would be ===== -/
def safeA (np nr : Nat) (kd lf qt wd rx ry h : Nat → Int) : Nat := if h 2 = 0 then 0 else bitsTo (fun i => !fallF nr rx ry (tnF np kd lf qt wd h i)) np
/-- both turns can be done -/
def canF (np : Nat) (kd lf qt wd h : Nat → Int) (i : Nat) : Prop := ¬ h 2 = 0 ∧ ¬ tnF np kd lf qt wd h i 2 = 0
def und1 (np : Nat) (kd lf qt wd h : Nat → Int) (i : Nat) : Nat → Bool := fun j => decide ((¬ h 2 = 0 ∧ ¬ tnF np kd lf qt wd h i 2 = 0) ∧ tnF np kd lf qt wd (tnF np kd lf qt wd h i) j 2 = h 2 ∧ tnF np kd lf qt wd (tnF np kd lf qt wd h i) j 3 = h 3)
def eithA (np : Nat) (kd lf qt wd h : Nat → Int) (i j : Nat) : Bool := decide ((¬ h 2 = 0 ∧ ¬ tnF np kd lf qt wd h i 2 = 0) ∧ (¬ h 2 = 0 ∧ ¬ tnF np kd lf qt wd h j 2 = 0) ∧ (tnF np kd lf qt wd (tnF np kd lf qt wd h i) j 0 = tnF np kd lf qt wd (tnF np kd lf qt wd h j) i 0 ∧ tnF np kd lf qt wd (tnF np kd lf qt wd h i) j 1 = tnF np kd lf qt wd (tnF np kd lf qt wd h j) i 1 ∧ tnF np kd lf qt wd (tnF np kd lf qt wd h i) j 2 = tnF np kd lf qt wd (tnF np kd lf qt wd h j) i 2 ∧ tnF np kd lf qt wd (tnF np kd lf qt wd h i) j 3 = tnF np kd lf qt wd (tnF np kd lf qt wd h j) i 3))
def glN (wd : Nat → Int) : Nat → (Nat → Int) → (Nat → Int)
  | 0, h => h
  | n + 1, h => glN wd n (glF wd h)
theorem glN_ok {wd : Nat → Int} : ∀ (n : Nat) {h : Nat → Int}, hOK h → hOK (glN wd n h)
  | 0, _, ho => ho
  | n + 1, _, ho => glN_ok n (glF_ok ho)
def whi1 (np : Nat) (kd lf qt wd s : Nat → Int) (x y z : Int) : Nat → Bool := fun i => decide (tnF np kd lf qt wd s i 0 = x ∧ tnF np kd lf qt wd s i 1 = y ∧ tnF np kd lf qt wd s i 2 = z)
def may0 (ns : Nat) (sp sc sv : Nat → Int) (p u : Int) : Nat → Bool := fun k => !anyTo (notF sp sc sv p (k : Int) u) ns
def may1 (ns : Nat) (sp sc sv : Nat → Int) (p k : Int) : Nat → Bool := fun u => !anyTo (notF sp sc sv p k (u : Int)) ns
def drw (z t np : Nat) : Nat := ((7919 * z + 6151 * t + 1) * (7919 * z + 6151 * t + 1) % 65521 / 8) % np
/-- turns by draws: how many, the horse then -/
def flN (np : Nat) (kd lf qt wd : Nat → Int) (z : Nat) : Nat → Nat → (Nat → Int) → Nat × (Nat → Int)
  | 0, t, h => (t, h)
  | n + 1, t, h => if h 2 = 0 then (t, h) else flN np kd lf qt wd z n (t + 1) (tnF np kd lf qt wd h (drw z t np))
def flA (nr : Nat) (rx ry : Nat → Int) (w : Int) (r : Nat × (Nat → Int)) : Int := if w = 1 then 100 * r.2 2 + (10 * r.2 1 + r.2 0) else if landF nr rx ry r.2 then (r.1 : Int) else -4
theorem sq_rg {x : Int} (h : 0 ≤ x ∧ x ≤ 79421971) : 0 ≤ x * x ∧ x * x < 9223372036854775808 := by
  have h1 : 0 ≤ x * x := Int.mul_nonneg h.1 h.1
  have h2 : x * x ≤ 79421971 * 79421971 := Int.mul_le_mul h.2 h.2 h.1 (by omega)
  omega
