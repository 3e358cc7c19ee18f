/-! ===== division, masks, shifts ===== -/
theorem zz_div {a b : Int} (ha : 0 ≤ a ∧ a < 2147483648) (hb : 0 < b ∧ b < 2147483648) : zz a / zz b = zz (a / b) := by
  obtain ⟨n, rfl⟩ : ∃ n : Nat, a = (n : Int) := ⟨a.toNat, by omega⟩
  obtain ⟨m, rfl⟩ : ∃ m : Nat, b = (m : Int) := ⟨b.toNat, by omega⟩
  rw [zz_nat, zz_nat, pk_div (by omega) (by omega) (by omega), ← zz_nat, Int.natCast_ediv]
theorem zz_rem {a b : Int} (ha : 0 ≤ a ∧ a < 2147483648) (hb : 0 < b ∧ b < 2147483648) : zz a - zz a / zz b * zz b = zz (a % b) := by
  obtain ⟨n, rfl⟩ : ∃ n : Nat, a = (n : Int) := ⟨a.toNat, by omega⟩
  obtain ⟨m, rfl⟩ : ∃ m : Nat, b = (m : Int) := ⟨b.toNat, by omega⟩
  rw [zz_nat, zz_nat, pk_rem (by omega) (by omega) (by omega), ← zz_nat, Int.natCast_emod]
theorem zz_ne0 {b : Int} (hb : 0 < b ∧ b < 2147483648) : ¬ zz b = 0 := fun h => by
  have := (zz_eq (a := b) (b := 0) (by omega) (by omega)).mp h
  omega
theorem zz_bv (a : Int) : (zz a).toBitVec.toNat = (a % 4294967296).toNat := by
  show (BitVec.ofInt 32 a).toNat = _
  rw [BitVec.toNat_ofInt]
  rfl
theorem zz_and {a m : Int} (k : Nat) (hk : k ≤ 32) (hm : (zz m).toBitVec.toNat = 2 ^ k - 1) : zz a &&& zz m = zz (a % ((2 ^ k : Nat) : Int)) := by
  rw [pk_and (zz a) k hm, zz_bv, ← zz_nat]
  congr 1
  have hd : ((2 ^ k : Nat) : Int) ∣ 4294967296 := by
    have h1 : (2 : Nat) ^ 32 = 2 ^ k * 2 ^ (32 - k) := by rw [← Nat.pow_add]; congr 1; omega
    exact ⟨((2 ^ (32 - k) : Nat) : Int), by rw [← Int.natCast_mul, ← h1]; rfl⟩
  rw [Int.natCast_emod, Int.toNat_of_nonneg (by omega)]
  exact Int.emod_emod_of_dvd a hd
theorem zz_or (a b : Nat) : zz (a : Int) ||| zz (b : Int) = zz ((a ||| b : Nat) : Int) := by
  rw [zz_nat, zz_nat, zz_nat]
  apply Int32.toBitVec_inj.1
  show BitVec.ofNat 32 a ||| BitVec.ofNat 32 b = BitVec.ofNat 32 (a ||| b)
  apply BitVec.eq_of_getLsbD_eq
  intro i hi
  simp [BitVec.getLsbD_or, BitVec.getLsbD_ofNat, hi, Nat.testBit_or]
theorem sh_l : ∀ n, n < 32 → ((nI n &&& 31).toBitVec.smod 32).toNat = n := by decide +kernel
theorem zz_shl {n k : Nat} (hk : k < 32) (h : n * 2 ^ k < 4294967296) : zz (n : Int) <<< (zz (k : Int) &&& 31) = zz ((n * 2 ^ k : Nat) : Int) := by
  rw [zz_nat, zz_nat, zz_nat]
  exact pk_shlN _ k (sh_l k hk) h
theorem zz_shr {n k : Nat} (hn : n < 2147483648) (hk : k < 32) : zz (n : Int) >>> (zz (k : Int) &&& 31) = zz ((n / 2 ^ k : Nat) : Int) := by
  rw [zz_nat, zz_nat, zz_nat]
  exact pk_shrN hn _ k (sh_l k hk)
theorem zz_i2c {x : Int} (h : 0 ≤ x ∧ x < 65536) : ((zz x).toUInt32 % 65536).toInt32 = zz x := by
  obtain ⟨n, rfl⟩ : ∃ n : Nat, x = (n : Int) := ⟨x.toNat, by omega⟩
  rw [zz_nat, pk_char, pk_tn (by omega), Nat.mod_eq_of_lt (by omega)]
section RULES2
variable {E : Ev} {M : Mt} {d kc ks pc : Nat} {lv lv2 : List (Nat × Value)} {st : List Value} {ws ws2 : va_W} {post : Option Value → va_W → Prop}
theorem rr_idiv {a b : Int} (hd : decode M.2.1 pc = .ok (.idiv, 1)) (ha : 0 ≤ a ∧ a < 2147483648) (hb : 0 < b ∧ b < 2147483648) (K : RR E M d kc ks (pc + 1) lv (.int (zz (a / b)) :: st) ws post) : RR E M d kc ks pc lv (.int (zz b) :: .int (zz a) :: st) ws post :=
  rr_idivX hd (zz_ne0 hb) (zz_div ha hb) K
theorem rr_irem {a b : Int} (hd : decode M.2.1 pc = .ok (.irem, 1)) (ha : 0 ≤ a ∧ a < 2147483648) (hb : 0 < b ∧ b < 2147483648) (K : RR E M d kc ks (pc + 1) lv (.int (zz (a % b)) :: st) ws post) : RR E M d kc ks pc lv (.int (zz b) :: .int (zz a) :: st) ws post :=
  rr_iremX hd (zz_ne0 hb) (zz_rem ha hb) K
theorem rr_iand {a m r : Int} (k : Nat) (hd : decode M.2.1 pc = .ok (.iand, 1)) (hk : k ≤ 32) (hm : (zz m).toBitVec.toNat = 2 ^ k - 1) (hr : a % ((2 ^ k : Nat) : Int) = r) (K : RR E M d kc ks (pc + 1) lv (.int (zz r) :: st) ws post) : RR E M d kc ks pc lv (.int (zz m) :: .int (zz a) :: st) ws post :=
  rr_iandX hd ((zz_and k hk hm).trans (by rw [hr])) K
theorem rr_ior {a b : Nat} (hd : decode M.2.1 pc = .ok (.ior, 1)) (K : RR E M d kc ks (pc + 1) lv (.int (zz ((a ||| b : Nat) : Int)) :: st) ws post) : RR E M d kc ks pc lv (.int (zz (b : Int)) :: .int (zz (a : Int)) :: st) ws post :=
  rr_iorX hd (zz_or a b) K
theorem rr_ishl {n k : Nat} (hd : decode M.2.1 pc = .ok (.ishl, 1)) (hk : k < 32) (h : n * 2 ^ k < 4294967296) (K : RR E M d kc ks (pc + 1) lv (.int (zz ((n * 2 ^ k : Nat) : Int)) :: st) ws post) : RR E M d kc ks pc lv (.int (zz (k : Int)) :: .int (zz (n : Int)) :: st) ws post :=
  rr_ishlX hd (zz_shl hk h) K
theorem rr_ishr {n k : Nat} (hd : decode M.2.1 pc = .ok (.ishr, 1)) (hn : n < 2147483648) (hk : k < 32) (K : RR E M d kc ks (pc + 1) lv (.int (zz ((n / 2 ^ k : Nat) : Int)) :: st) ws post) : RR E M d kc ks pc lv (.int (zz (k : Int)) :: .int (zz (n : Int)) :: st) ws post :=
  rr_ishrX hd (zz_shr hn hk) K
theorem rr_i2c {a : Int} (hd : decode M.2.1 pc = .ok (.i2c, 1)) (ha : 0 ≤ a ∧ a < 65536) (K : RR E M d kc ks (pc + 1) lv (.int (zz a) :: st) ws post) : RR E M d kc ks pc lv (.int (zz a) :: st) ws post :=
  rr_i2cX hd (zz_i2c ha) K
/-- an expression by another that is the same -/
theorem rr_top {a b : Int} (h : a = b) (K : RR E M d kc ks pc lv (.int (zz b) :: st) ws post) : RR E M d kc ks pc lv (.int (zz a) :: st) ws post := by
  subst h; exact K
/-- two tops by others -/
theorem rr_top2 {a b a2 b2 : Int} (h : a = a2) (h2 : b = b2) (K : RR E M d kc ks pc lv (.int (zz a2) :: .int (zz b2) :: st) ws post) : RR E M d kc ks pc lv (.int (zz a) :: .int (zz b) :: st) ws post := by
  subst h; subst h2; exact K
end RULES2
section RULES3
variable {E : Ev} {M : Mt} {d kc ks pc : Nat} {lv lv2 : List (Nat × Value)} {st : List Value} {ws ws2 : va_W} {post : Option Value → va_W → Prop}
/-- a test of an answer that tells whether something holds -/
theorem rr_if_eqD {c : Prop} [Decidable c] {off : Int} (tgt : Nat) (hd : decode M.2.1 pc = .ok (.ifCond .eq off, 3)) (ht : (pc : Int) + off = (tgt : Int))
    (kt : ¬ c → RR E M d kc ks tgt lv st ws post) (kf : c → RR E M d kc ks (pc + 3) lv st ws post) : RR E M d kc ks pc lv (.int (zz (bI (decide c))) :: st) ws post :=
  rr_if_eqB tgt hd ht (fun h => kt (of_decide_eq_false h)) (fun h => kf (of_decide_eq_true h))
theorem rr_if_neD {c : Prop} [Decidable c] {off : Int} (tgt : Nat) (hd : decode M.2.1 pc = .ok (.ifCond .ne off, 3)) (ht : (pc : Int) + off = (tgt : Int))
    (kt : c → RR E M d kc ks tgt lv st ws post) (kf : ¬ c → RR E M d kc ks (pc + 3) lv st ws post) : RR E M d kc ks pc lv (.int (zz (bI (decide c))) :: st) ws post :=
  rr_if_neB tgt hd ht (fun h => kt (of_decide_eq_true h)) (fun h => kf (of_decide_eq_false h))
end RULES3
