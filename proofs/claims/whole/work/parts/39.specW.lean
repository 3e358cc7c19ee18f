/-! ===== rows of turns, one after another ===== -/
abbrev Hs : Type := Nat → Int
abbrev Sk : Type := List (Hs × Nat)
abbrev Vs : Type := List (Nat × Nat × Hs)
def STK (rs rr : Nat → Int) : Sk → Prop
  | [] => True
  | e :: rest => (∀ i, i < 7 → rs (7 * rest.length + i) = amF e.1 i) ∧ rr rest.length = (e.2 : Int) - 1 ∧ STK rs rr rest
def SOK (np : Nat) (sk : Sk) : Prop := ∀ e ∈ sk, hOK e.1 ∧ hV np e.1 ∧ e.2 ≤ np
def nxR (tn : Hs → Nat → Hs) (np n : Nat) : Sk → Option Sk
  | [] => none
  | e :: rest => if rest.length < n ∧ ¬ e.1 2 = 0 ∧ e.2 < np then some ((tn e.1 e.2, 0) :: (e.1, e.2 + 1) :: rest) else nxR tn np n rest
def trF (tn : Hs → Nat → Hs) (np : Nat) : Nat → Nat → Nat → Hs → Vs
  | 0, _, _, _ => []
  | k + 1, t, pa, s => if s 2 = 0 then [] else (List.range' 0 np).flatMap (fun p => (t + 1, 8 * pa + p, tn s p) :: trF tn np k (t + 1) (8 * pa + p) (tn s p))
def trC (tn : Hs → Nat → Hs) (np : Nat) : Nat → Nat → Nat → Nat → Hs → Vs
  | 0, _, _, _, _ => []
  | k + 1, c, t, pa, s => if s 2 = 0 then [] else (List.range' c (np - c)).flatMap (fun p => (t + 1, 8 * pa + p, tn s p) :: trF tn np k (t + 1) (8 * pa + p) (tn s p))
theorem trC_0 (tn : Hs → Nat → Hs) (np k t pa : Nat) (s : Hs) : trC tn np k 0 t pa s = trF tn np k t pa s := by
  cases k with
  | zero => rfl
  | succ k => rfl
def pth : Sk → Nat
  | [] => 0
  | [_] => 0
  | _ :: e :: rest => 8 * pth (e :: rest) + (e.2 - 1)
theorem pth_c (s s2 : Hs) (c c2 : Nat) (rest : Sk) : pth ((s, c) :: rest) = pth ((s2, c2) :: rest) := by
  cases rest with
  | nil => rfl
  | cons e rest => rfl
def rem (tn : Hs → Nat → Hs) (np n : Nat) : Sk → Vs
  | [] => []
  | e :: rest => trC tn np (n - rest.length) e.2 rest.length (pth (e :: rest)) e.1 ++ rem tn np n rest
def hdS (sk : Sk) : Hs := match sk with
  | [] => fun _ => 0
  | e :: _ => e.1
theorem rem_none {tn : Hs → Nat → Hs} {np n : Nat} : ∀ {sk : Sk}, nxR tn np n sk = none → rem tn np n sk = []
  | [], _ => rfl
  | e :: rest, h => by
    rw [nxR] at h
    split at h
    · cases h
    · rename_i hc
      rw [rem, rem_none h, List.append_nil]
      cases hk : n - rest.length with
      | zero => rfl
      | succ k =>
        rw [trC]
        split
        · rfl
        · rename_i h2
          rw [show np - e.2 = 0 by omega]
          rfl
theorem rem_some {tn : Hs → Nat → Hs} {np n : Nat} : ∀ {sk sk2 : Sk}, nxR tn np n sk = some sk2 → rem tn np n sk = (sk2.length - 1, pth sk2, hdS sk2) :: rem tn np n sk2
  | [], _, h => by cases h
  | e :: rest, sk2, h => by
    rw [nxR] at h
    split at h
    · rename_i hc
      obtain ⟨h1, h2, h3⟩ := hc
      cases h
      obtain ⟨s, c⟩ := e
      dsimp only at h2 h3 ⊢
      obtain ⟨k, hk⟩ : ∃ k, n - rest.length = k + 1 := ⟨n - rest.length - 1, by omega⟩
      obtain ⟨j, hj⟩ : ∃ j, np - c = j + 1 := ⟨np - c - 1, by omega⟩
      have e1 : n - (rest.length + 1) = k := by omega
      have e2 : np - (c + 1) = j := by omega
      have e3 : pth ((tn s c, 0) :: (s, c + 1) :: rest) = 8 * pth ((s, c) :: rest) + c := by
        rw [pth, pth_c s s (c + 1) c rest]
        rfl
      rw [rem, rem, rem]
      simp only [List.length_cons]
      rw [hk, e1, e3, pth_c s s (c + 1) c rest, trC, if_neg h2, hj, List.range'_succ, List.flatMap_cons, trC_0, trC, if_neg h2, e2]
      simp only [List.cons_append, List.append_assoc]
      rfl
    · rename_i hc
      have hr : trC tn np (n - rest.length) e.2 rest.length (pth (e :: rest)) e.1 = [] := by
        cases hk : n - rest.length with
        | zero => rfl
        | succ k =>
          rw [trC]
          split
          · rfl
          · rename_i h2
            rw [show np - e.2 = 0 by omega]
            rfl
      rw [rem, hr, List.nil_append]
      exact rem_some h
theorem nxR_ok {np n : Nat} {kd lf qt wd : Nat → Int} (hp : pOK np kd lf qt wd) : ∀ {sk sk2 : Sk}, SOK np sk → sk.length ≤ n + 1 → nxR (tnF np kd lf qt wd) np n sk = some sk2 → SOK np sk2 ∧ sk2.length ≤ n + 1
  | [], _, _, _, h => by cases h
  | e :: rest, sk2, ho, hl, h => by
    rw [nxR] at h
    split at h
    · rename_i hc
      cases h
      have h1 := ho e List.mem_cons_self
      refine ⟨fun q hq => ?_, by simp only [List.length_cons]; omega⟩
      rcases List.mem_cons.mp hq with rfl | hq
      · exact ⟨tnF_ok hp h1.1 hc.2.2, tnF_hV hc.2.2, Nat.zero_le _⟩
      · rcases List.mem_cons.mp hq with rfl | hq
        · exact ⟨h1.1, h1.2.1, hc.2.2⟩
        · exact ho q (List.mem_cons_of_mem _ hq)
    · exact nxR_ok hp (fun q hq => ho q (List.mem_cons_of_mem _ hq)) (by simp only [List.length_cons] at hl; omega) h
/-- a change above a stack's rows leaves it -/
theorem STK.keep {rs rr rs2 rr2 : Nat → Int} : ∀ {sk : Sk}, STK rs rr sk → (∀ j, j < 7 * sk.length → rs2 j = rs j) → (∀ j, j < sk.length → rr2 j = rr j) → STK rs2 rr2 sk
  | [], _, _, _ => trivial
  | e :: rest, h, h1, h2 => by
    simp only [List.length_cons] at h1 h2
    refine ⟨fun i hi => ?_, ?_, STK.keep h.2.2 (fun j hj => h1 j (by omega)) (fun j hj => h2 j (by omega))⟩
    · rw [h1 _ (by omega)]
      exact h.1 i hi
    · rw [h2 _ (by omega)]
      exact h.2.1
/-- the digits of a path lie in the row -/
theorem STK.dig {np : Nat} {rs rr : Nat → Int} (hn : np ≤ 8) : ∀ {e : Hs × Nat} {rest : Sk}, STK rs rr (e :: rest) → SOK np (e :: rest) → (∀ q ∈ rest, 1 ≤ q.2) → ∀ k, k < rest.length → rr k = ((pth (e :: rest) / 8 ^ (rest.length - 1 - k) % 8 : Nat) : Int)
  | e, [], _, _, _, k, hk => absurd hk (Nat.not_lt_zero k)
  | e, q :: rest, h, ho, h1, k, hk => by
    have hq := ho q (List.mem_cons_of_mem _ List.mem_cons_self)
    have hq1 := h1 q List.mem_cons_self
    rw [pth]
    simp only [List.length_cons] at hk ⊢
    by_cases e1 : k = rest.length
    · subst e1
      rw [show rest.length + 1 - 1 - rest.length = 0 by omega, Nat.pow_zero, Nat.div_one, h.2.2.2.1]
      omega
    · obtain ⟨j, hj⟩ : ∃ j, rest.length + 1 - 1 - k = j + 1 := ⟨rest.length - k - 1, by omega⟩
      have ih := STK.dig hn h.2.2 (fun x hx => ho x (List.mem_cons_of_mem _ hx)) (fun x hx => h1 x (List.mem_cons_of_mem _ hx)) k (by omega)
      rw [ih, hj, show rest.length - 1 - k = j by omega, Nat.pow_succ, Nat.mul_comm (8 ^ j) 8, ← Nat.div_div_eq_div_mul]
      congr 3
      omega
def SO1 (sk : Sk) : Prop := ∀ q ∈ sk.tail, 1 ≤ q.2
theorem nxR_1 {tn : Hs → Nat → Hs} {np n : Nat} : ∀ {sk sk2 : Sk}, SO1 sk → nxR tn np n sk = some sk2 → SO1 sk2
  | [], _, _, h => by cases h
  | e :: rest, sk2, ho, h => by
    rw [nxR] at h
    split at h
    · cases h
      intro q hq
      rcases List.mem_cons.mp hq with rfl | hq
      · exact Nat.succ_le_succ (Nat.zero_le _)
      · exact ho q hq
    · refine nxR_1 (fun q hq => ho q ?_) h
      exact List.mem_of_mem_tail hq
/-! ===== levels ===== -/
def lvF (tn : Hs → Nat → Hs) (np : Nat) : Nat → Nat → Hs → List (Nat × Hs)
  | 0, pa, s => [(pa, s)]
  | k + 1, pa, s => if s 2 = 0 then [] else (List.range' 0 np).flatMap (fun p => lvF tn np k (8 * pa + p) (tn s p))
theorem fm_find {α β γ : Type} {F : γ → List α} {G : γ → List β} {P : α → Bool} {Q : β → Bool} {M : β → α} : ∀ (l : List γ), (∀ p, (F p).find? P = ((G p).find? Q).map M) → (l.flatMap F).find? P = ((l.flatMap G).find? Q).map M
  | [], _ => rfl
  | p :: l, h => by
    rw [List.flatMap_cons, List.flatMap_cons, List.find?_append, List.find?_append, h p, fm_find l h]
    cases (G p).find? Q <;> rfl
theorem tr_find {tn : Hs → Nat → Hs} {np : Nat} {φ : Hs → Bool} {D : Nat} : ∀ (k t pa : Nat) (s : Hs), D = t + k + 1 → (trF tn np (k + 1) t pa s).find? (fun v => decide (v.1 = D) && φ v.2.2) = ((lvF tn np (k + 1) pa s).find? (fun e => φ e.2)).map (fun e => (D, e.1, e.2))
  | 0, t, pa, s, hD => by
    subst hD
    rw [trF, lvF]
    split
    · rfl
    · refine fm_find _ (fun p => ?_)
      rw [trF, lvF]
      simp only [List.find?_cons, List.find?_nil]
      cases φ (tn s p) <;> simp
  | k + 1, t, pa, s, hD => by
    rw [trF, lvF]
    split
    · rfl
    · refine fm_find _ (fun p => ?_)
      rw [List.find?_cons_of_neg (by simp; omega)]
      exact tr_find k (t + 1) (8 * pa + p) (tn s p) (by omega)
/-- the first of the least turns: how many, and its path -/
def wtF (lv : Nat → List (Nat × Hs)) (φ : Hs → Bool) : Nat → Nat → Int × Nat
  | 0, _ => (-4, 0)
  | f + 1, t => match (lv t).find? (fun e => φ e.2) with
    | some e => ((t : Int), e.1)
    | none => wtF lv φ f (t + 1)
def ovH (x y : Int) (s : Hs) : Bool := decide (s 2 = 0) && decide (s 0 = x ∧ s 1 = y)
def DG (rr : Nat → Int) (R : Int × Nat) : Prop := ∀ k : Nat, (k : Int) < R.1 → rr k = ((R.2 / 8 ^ (R.1.toNat - 1 - k) % 8 : Nat) : Int)
def wyA (R : Int × Nat) (k : Int) : Int := if k < 0 then R.1 else if k < R.1 then ((R.2 / 8 ^ (R.1.toNat - 1 - k.toNat) % 8 : Nat) : Int) else -4
theorem wtF_rg (lv : Nat → List (Nat × Hs)) (φ : Hs → Bool) : ∀ (f t : Nat), (wtF lv φ f t).1 = -4 ∨ ((t : Int) ≤ (wtF lv φ f t).1 ∧ (wtF lv φ f t).1 < (t + f : Nat))
  | 0, t => Or.inl rfl
  | f + 1, t => by
    rw [wtF]
    cases (lv t).find? (fun e => φ e.2) with
    | some e => exact Or.inr ⟨Int.le_refl _, by show (t : Int) < ((t + (f + 1) : Nat) : Int); omega⟩
    | none =>
      rcases wtF_rg lv φ f (t + 1) with h | h
      · exact Or.inl h
      · exact Or.inr ⟨by show (t : Int) ≤ (wtF lv φ f (t + 1)).1; omega, by show (wtF lv φ f (t + 1)).1 < ((t + (f + 1) : Nat) : Int); omega⟩
/-- a horse that is down goes no further -/
theorem wtF_down {tn : Hs → Nat → Hs} {np : Nat} {φ : Hs → Bool} {h : Hs} (hd : h 2 = 0) : ∀ (f t : Nat), 1 ≤ t → wtF (fun t => lvF tn np t 0 h) φ f t = (-4, 0)
  | 0, t, _ => rfl
  | f + 1, t, ht => by
    obtain ⟨k, rfl⟩ : ∃ k, t = k + 1 := ⟨t - 1, by omega⟩
    rw [wtF, lvF, if_pos hd]
    exact wtF_down hd f (k + 1 + 1) (by omega)
/-- weights of what is visited -/
def smV (nr np n : Nat) (rx ry : Nat → Int) : Vs → Nat
  | [] => 0
  | v :: L => (if landF nr rx ry v.2.2 then np ^ (n - v.1) else 0) + smV nr np n rx ry L
theorem cp7o {nw rs g : Nat → Int} {b : Nat} (h : ∀ i, i < 7 → rs (b + i) = g i) : AG 7 (cpI nw 0 rs b 7) g := by
  intro i hi
  unfold cpI
  rw [if_pos (by omega), Nat.sub_zero]
  exact h i hi
theorem STK_push {rs rr nw : Nat → Int} {s s2 : Hs} {c q : Nat} {rest : Sk} (h : STK rs rr ((s, c) :: rest)) (hq : q = rest.length) (ha : AG 7 nw (amF s2)) : STK (cpI rs (7 * (q + 1)) nw 0 7) (updI (updI rr q (rr q + 1)) (q + 1) (-1)) ((s2, 0) :: (s, c + 1) :: rest) := by
  subst hq
  have k1 : ∀ j, j < 7 * (rest.length + 1) → cpI rs (7 * (rest.length + 1)) nw 0 7 j = rs j := fun j hj => by
    unfold cpI
    rw [if_neg (by omega)]
  refine ⟨fun i hi => ?_, ?_, ⟨fun i hi => ?_, ?_, ?_⟩⟩
  · show cpI rs (7 * (rest.length + 1)) nw 0 7 (7 * (rest.length + 1) + i) = _
    unfold cpI
    rw [if_pos (by omega), show 0 + (7 * (rest.length + 1) + i - 7 * (rest.length + 1)) = i by omega]
    exact ha i hi
  · show updI (updI rr rest.length (rr rest.length + 1)) (rest.length + 1) (-1) (rest.length + 1) = _
    rw [updI_eq]
    rfl
  · rw [k1 _ (by omega)]
    exact h.1 i hi
  · rw [updI_ne (by omega), updI_eq, h.2.1]
    show (c : Int) - 1 + 1 = ((c + 1 : Nat) : Int) - 1
    omega
  · refine STK.keep h.2.2 (fun j hj => k1 j (by omega)) (fun j hj => ?_)
    rw [updI_ne (by omega), updI_ne (by omega)]
theorem STK_one {rs rr nw h : Nat → Int} (ha : AG 7 nw (amF h)) : STK (cpI rs (7 * 0) nw 0 7) (updI rr 0 (-1)) [(h, 0)] := by
  refine ⟨fun i hi => ?_, ?_, trivial⟩
  · show cpI rs (7 * 0) nw 0 7 (7 * 0 + i) = _
    unfold cpI
    rw [if_pos (by omega), show 0 + (7 * 0 + i - 7 * 0) = i by omega]
    exact ha i hi
  · rfl
theorem SOK_one {np : Nat} {h : Hs} (ho : hOK h) (hv : hV np h) : SOK np [(h, 0)] := by
  intro e he
  rw [List.mem_singleton.mp he]
  exact ⟨ho, hv, Nat.zero_le _⟩
theorem rem_one (tn : Hs → Nat → Hs) (np n : Nat) (h : Hs) : rem tn np n [(h, 0)] = trF tn np n 0 0 h := by
  rw [rem, rem, List.append_nil]
  exact trC_0 tn np n 0 0 h
theorem nxR_y {tn : Hs → Nat → Hs} {np n c : Nat} {s : Hs} {rest : Sk} (h : rest.length < n ∧ ¬ s 2 = 0 ∧ c < np) : nxR tn np n ((s, c) :: rest) = some ((tn s c, 0) :: (s, c + 1) :: rest) := by
  rw [nxR]
  exact if_pos h
theorem nxR_n {tn : Hs → Nat → Hs} {np n c : Nat} {s : Hs} {rest : Sk} (h : ¬ (rest.length < n ∧ ¬ s 2 = 0 ∧ c < np)) : nxR tn np n ((s, c) :: rest) = nxR tn np n rest := by
  rw [nxR]
  exact if_neg h
section FINDS
variable {M f : Nat} {φ : Hs → Bool} {v : Nat × Nat × Hs} {L : Vs} {o : Option Nat} {lv : Nat → List (Nat × Hs)}
def fdV (M : Nat) (φ : Hs → Bool) (L : Vs) : Option Nat := (L.find? (fun v => decide (v.1 = M) && φ v.2.2)).map (fun v => v.2.1)
theorem fdV_y (h1 : v.1 = M) (h2 : φ v.2.2 = true) : fdV M φ (v :: L) = some v.2.1 := by
  unfold fdV
  rw [List.find?_cons_of_pos (by simp [h1, h2])]
  rfl
theorem fdV_n (h : ¬ (v.1 = M ∧ φ v.2.2 = true)) : fdV M φ (v :: L) = fdV M φ L := by
  unfold fdV
  rw [List.find?_cons_of_neg (by simpa using h)]
def wtO (lv : Nat → List (Nat × Hs)) (φ : Hs → Bool) (f M : Nat) (o : Option Nat) : Int × Nat := match o with
  | some pa => ((M : Int), pa)
  | none => wtF lv φ f (M + 1)
theorem wt_rem {tn : Hs → Nat → Hs} {np : Nat} {h : Hs} (hM : 1 ≤ M) : wtF (fun t => lvF tn np t 0 h) φ (f + 1) M = wtO (fun t => lvF tn np t 0 h) φ f M (fdV M φ (rem tn np M [(h, 0)])) := by
  obtain ⟨k, rfl⟩ : ∃ k, M = k + 1 := ⟨M - 1, by omega⟩
  unfold fdV
  rw [rem_one, tr_find k 0 0 h (by omega), wtF]
  cases hf : (lvF tn np (k + 1) 0 h).find? (fun e => φ e.2) <;> rfl
theorem ovH_iff {x y : Int} {s : Hs} : ovH x y s = true ↔ s 2 = 0 ∧ s 0 = x ∧ s 1 = y := by
  unfold ovH
  simp
theorem ov_rel {nr r : Nat} {rx ry ro nw h : Nat → Int} (hR : RoL nr rx ry ro) (ha : AG 6 nw h) (hr : r < nr) : ovM ro (nw 0) (nw 1) r = decide (h 0 = rx r ∧ h 1 = ry r) := by
  unfold ovM
  rw [ha 0 (by omega), ha 1 (by omega), (hR r hr).1, (hR r hr).2]
  exact decide_eq_decide.mpr ⟨fun z => ⟨z.1.symm, z.2.symm⟩, fun z => ⟨z.1.symm, z.2.symm⟩⟩
theorem wt_0 {tn : Hs → Nat → Hs} {np : Nat} {h : Hs} (hd : ¬ h 2 = 0) {x y : Int} : wtF (fun t => lvF tn np t 0 h) (ovH x y) (f + 1) 0 = wtF (fun t => lvF tn np t 0 h) (ovH x y) f 1 := by
  have h1 : ¬ ovH x y h = true := by rw [ovH_iff]; exact fun z => hd z.1
  have h2 : ([((0 : Nat), h)] : List (Nat × Hs)).find? (fun e => ovH x y e.2) = none := (List.find?_cons_of_neg (p := fun e : Nat × Hs => ovH x y e.2) (a := (0, h)) h1).trans rfl
  rw [wtF, lvF, h2]
theorem wt_0d {tn : Hs → Nat → Hs} {np : Nat} {h : Hs} (hd : h 2 = 0) {x y : Int} : wtF (fun t => lvF tn np t 0 h) (ovH x y) (f + 1) 0 = if h 0 = x ∧ h 1 = y then (0, 0) else (-4, 0) := by
  by_cases hc : h 0 = x ∧ h 1 = y
  · have h1 : ovH x y h = true := by rw [ovH_iff]; exact ⟨hd, hc⟩
    have h2 : ([((0 : Nat), h)] : List (Nat × Hs)).find? (fun e => ovH x y e.2) = some (0, h) := List.find?_cons_of_pos h1
    rw [wtF, lvF, h2, if_pos hc]
    rfl
  · have h1 : ¬ ovH x y h = true := by rw [ovH_iff]; exact fun z => hc z.2
    have h2 : ([((0 : Nat), h)] : List (Nat × Hs)).find? (fun e => ovH x y e.2) = none := (List.find?_cons_of_neg (p := fun e : Nat × Hs => ovH x y e.2) (a := (0, h)) h1).trans rfl
    rw [wtF, lvF, h2, if_neg hc]
    exact wtF_down hd f 1 (by omega)
end FINDS
def dvF (B np j : Nat) : Nat := B / np ^ j
theorem dvF_le (B np j : Nat) : dvF B np j ≤ B := Nat.div_le_self _ _
theorem dvF_s (B np j : Nat) : (((dvF B np j : Nat) : Int)) / (np : Int) = ((dvF B np (j + 1) : Nat) : Int) := by
  unfold dvF
  rw [Nat.pow_succ, ← Nat.div_div_eq_div_mul]
  exact (Int.natCast_ediv _ _).symm
theorem dvF_p {np n t : Nat} (hn : 1 ≤ np) (ht : t ≤ n) : dvF (np ^ n) np t = np ^ (n - t) := Nat.pow_div ht hn
def likG (T B : Nat) (w : Int) : Int := if w = 0 then ((T / Nat.gcd T B : Nat) : Int) else ((B / Nat.gcd T B : Nat) : Int)
theorem gcd_st (a b : Nat) : Nat.gcd b (a % b) = Nat.gcd a b := by rw [Nat.gcd_comm b (a % b), ← Nat.gcd_rec, Nat.gcd_comm]
