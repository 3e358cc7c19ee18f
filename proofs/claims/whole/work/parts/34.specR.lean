/-! ===== a horse of the class and a row of the reference ===== -/
def amF (h : Nat → Int) : Nat → Int := updI h 6 (if h 6 = -4 then -1 else h 6)
def hV (np : Nat) (h : Nat → Int) : Prop := h 6 = -4 ∨ (0 ≤ h 6 ∧ h 6 < (np : Int))
def PL (np : Nat) (kd lf qt wd pg wn : Nat → Int) : Prop := (∀ k, k < np → pg (3 * k) = kd k ∧ pg (3 * k + 1) = lf k ∧ pg (3 * k + 2) = qt k) ∧ ∀ k, k < 10 → wn k = wd k
def RoL (nr : Nat) (rx ry ro : Nat → Int) : Prop := ∀ k, k < nr → ro (2 * k) = rx k ∧ ro (2 * k + 1) = ry k
section REL
variable {np nr i : Nat} {kd lf qt wd pg wn rx ry ro nw h : Nat → Int}
theorem PL.ok (hP : PL np kd lf qt wd pg wn) (hp : pOK np kd lf qt wd) : pgOK np pg wn := by
  refine ⟨hp.1, fun k hk => ?_, fun k hk => ?_⟩
  · obtain ⟨a, b, c⟩ := hP.1 k hk
    rw [a, b, c]
    exact hp.2.1 k hk
  · rw [hP.2 k hk]
    exact hp.2.2 k hk
theorem RoL.ok (hP : RoL nr rx ry ro) (hp : rOK nr rx ry) : roOK nr ro := by
  refine ⟨hp.1, fun k hk => ?_⟩
  obtain ⟨a, b⟩ := hP k hk
  rw [a, b]
  exact hp.2 k hk
theorem AG.all (ha : AG 7 nw (amF h)) : nw 0 = h 0 ∧ nw 1 = h 1 ∧ nw 2 = h 2 ∧ nw 3 = h 3 ∧ nw 4 = h 4 ∧ nw 5 = h 5 ∧ nw 6 = (if h 6 = -4 then -1 else h 6) := ⟨ha 0 (by omega), ha 1 (by omega), ha 2 (by omega), ha 3 (by omega), ha 4 (by omega), ha 5 (by omega), ha 6 (by omega)⟩
theorem AG.of7 {f g : Nat → Int} (h0 : f 0 = g 0) (h1 : f 1 = g 1) (h2 : f 2 = g 2) (h3 : f 3 = g 3) (h4 : f 4 = g 4) (h5 : f 5 = g 5) (h6 : f 6 = g 6) : AG 7 f g := by
  intro i hi
  match i, hi with
  | 0, _ => exact h0
  | 1, _ => exact h1
  | 2, _ => exact h2
  | 3, _ => exact h3
  | 4, _ => exact h4
  | 5, _ => exact h5
  | 6, _ => exact h6
  | i + 7, hi => exact absurd hi (by omega)
theorem AG.ok (ha : AG 7 nw (amF h)) (ho : hOK h) (hv : hV np h) : mOK np nw := by
  obtain ⟨e0, e1, e2, e3, e4, e5, e6⟩ := ha.all
  obtain ⟨o0, o1, o2, o3, o5, o6⟩ := ho
  unfold mOK
  rw [e0, e1, e2, e3, e5, e6]
  refine ⟨o0, o1, o2, o3, o5, ?_⟩
  unfold hV at hv
  split <;> omega
theorem db_rel (hP : PL np kd lf qt wd pg wn) (hv : hV np h) : dbM pg (if h 6 = -4 then -1 else h 6) = dblF np kd (h 6) := by
  unfold dbM dblF
  unfold hV at hv
  by_cases e : h 6 = -4
  · rw [if_pos e, e]; simp
  · rw [if_neg e]
    have hq : 0 ≤ h 6 ∧ h 6 < (np : Int) := by omega
    rw [(hP.1 (h 6).toNat (by omega)).1]
    simp [hq]
theorem wi_rel (hP : PL np kd lf qt wd pg wn) (z : Int) : windF wn z = windF wd z := by
  unfold windF
  split
  · rfl
  · exact hP.2 _ (by omega)
theorem qu_rel {k t c : Int} (ht : 0 ≤ t ∧ t ≤ 3) : quM k t c = quartF k t c := by
  unfold quM quartF
  split <;> omega
theorem tnF_hV (hi : i < np) : hV np (tnF np kd lf qt wd h i) := Or.inr ⟨by show (0 : Int) ≤ (i : Int); omega, by show (i : Int) < (np : Int); omega⟩
theorem glF_hV : hV np (glF wd h) := Or.inl rfl
theorem tn_rel (hP : PL np kd lf qt wd pg wn) (hp : pOK np kd lf qt wd) (hv : hV np h) (ha : AG 7 nw (amF h)) (hi : i < np) : AG 7 (tnM pg wn nw i) (amF (tnF np kd lf qt wd h i)) := by
  obtain ⟨e0, e1, e2, e3, e4, e5, e6⟩ := ha.all
  obtain ⟨p1, p2, p3⟩ := hP.1 i hi
  have hL : liftF (pg (3 * i)) (pg (3 * i + 1)) (nw 3) (dbM pg (nw 6)) (nw 5) = liftF (kd i) (lf i) (h 3) (dblF np kd (h 6)) (h 5) := by rw [p1, p2, e3, e5, e6, db_rel hP hv]
  have hQ : quM (pg (3 * i)) (pg (3 * i + 2)) (nw 3) = quartF (kd i) (qt i) (h 3) := by rw [p1, p3, e3, qu_rel (hp.2.1 i hi).2.2]
  have hW := wi_rel hP
  unfold tnM
  rw [hL, hQ]
  unfold tnF
  generalize liftF (kd i) (lf i) (h 3) (dblF np kd (h 6)) (h 5) = L
  generalize quartF (kd i) (qt i) (h 3) = Q
  refine AG.of7 ?_ ?_ ?_ ?_ ?_ ?_ ?_
  · show clampI (clampI (nw 0 + eastw ((nw 3 + Q) % 4)) 9 + eastw (windF wn (clampI (nw 2 + L) 9))) 9 = clampI (clampI (h 0 + eastw ((h 3 + Q) % 4)) 9 + eastw (windF wd (clampI (h 2 + L) 9))) 9
    rw [hW, e0, e2, e3]
  · show clampI (clampI (nw 1 + southw ((nw 3 + Q) % 4)) 9 + southw (windF wn (clampI (nw 2 + L) 9))) 9 = clampI (clampI (h 1 + southw ((h 3 + Q) % 4)) 9 + southw (windF wd (clampI (h 2 + L) 9))) 9
    rw [hW, e1, e2, e3]
  · show clampI (nw 2 + L) 9 = clampI (h 2 + L) 9
    rw [e2]
  · show (nw 3 + Q) % 4 = (h 3 + Q) % 4
    rw [e3]
  · show nw 4 + 1 = h 4 + 1
    rw [e4]
  · exact e5
  · show (i : Int) = if (i : Int) = -4 then -1 else (i : Int)
    rw [if_neg (by omega)]
theorem fl6_rel (hP : PL np kd lf qt wd pg wn) (ha : AG 6 nw h) : AG 6 (flF wn nw) (glF wd h) := by
  have e0 := ha 0 (by omega)
  have e1 := ha 1 (by omega)
  have e2 := ha 2 (by omega)
  have e3 := ha 3 (by omega)
  have e4 := ha 4 (by omega)
  have e5 := ha 5 (by omega)
  have hW := wi_rel hP
  intro i hi
  match i, hi with
  | 0, _ =>
    show clampI (clampI (nw 0 + eastw (nw 3)) 9 + eastw (windF wn (nw 2))) 9 = clampI (clampI (h 0 + eastw (h 3)) 9 + eastw (windF wd (h 2))) 9
    rw [hW, e0, e2, e3]
  | 1, _ =>
    show clampI (clampI (nw 1 + southw (nw 3)) 9 + southw (windF wn (nw 2))) 9 = clampI (clampI (h 1 + southw (h 3)) 9 + southw (windF wd (h 2))) 9
    rw [hW, e1, e2, e3]
  | 2, _ => exact e2
  | 3, _ => exact e3
  | 4, _ =>
    show nw 4 + 1 = h 4 + 1
    rw [e4]
  | 5, _ => exact e5
  | i + 6, hi => exact absurd hi (by omega)
theorem AG.six (ha : AG 7 nw (amF h)) : AG 6 nw h := by
  obtain ⟨e0, e1, e2, e3, e4, e5, e6⟩ := ha.all
  intro i hi
  match i, hi with
  | 0, _ => exact e0
  | 1, _ => exact e1
  | 2, _ => exact e2
  | 3, _ => exact e3
  | 4, _ => exact e4
  | 5, _ => exact e5
  | i + 6, hi => exact absurd hi (by omega)
theorem AG.up6 {f g : Nat → Int} {v : Int} (ha : AG 6 f g) (hg : (if g 6 = -4 then -1 else g 6) = v) : AG 7 (updI f 6 v) (amF g) :=
  AG.of7 (ha 0 (by omega)) (ha 1 (by omega)) (ha 2 (by omega)) (ha 3 (by omega)) (ha 4 (by omega)) (ha 5 (by omega)) (show v = (if g 6 = -4 then -1 else g 6) from hg.symm)
theorem fl_rel (hP : PL np kd lf qt wd pg wn) (ha : AG 7 nw (amF h)) : AG 7 (updI (flF wn nw) 6 (-1)) (amF (glF wd h)) := AG.up6 (fl6_rel hP ha.six) (show (if (-4 : Int) = -4 then (-1 : Int) else -4) = -1 from rfl)
theorem anyTo_congr {c c2 : Nat → Bool} : ∀ {n : Nat}, (∀ k, k < n → c k = c2 k) → anyTo c n = anyTo c2 n
  | 0, _ => rfl
  | n + 1, h => by rw [anyTo, anyTo, anyTo_congr (fun k hk => h k (by omega)), h n (by omega)]
theorem la_rel (hR : RoL nr rx ry ro) (ha : AG 6 nw h) : laM nr ro nw = landF nr rx ry h := by
  unfold laM landF
  rw [ha 0 (by omega), ha 1 (by omega), ha 2 (by omega)]
  congr 1
  refine anyTo_congr (fun k hk => ?_)
  unfold ovM roofF
  rw [(hR k hk).1, (hR k hk).2]
theorem AG.trans {n : Nat} {f g e : Nat → Int} (h1 : AG n f g) (h2 : AG n g e) : AG n f e := fun i hi => (h1 i hi).trans (h2 i hi)
theorem cp7 {nw st g : Nat → Int} (ha : AG 7 st g) : AG 7 (cpI nw 0 st 0 7) g := fun i hi => (cpI_all hi).trans (ha i hi)
end REL
/-! ===== how the reference reads a text ===== -/
def nmM (t : Nat → Int) : Prop := ∀ j, j < 4 → 0 ≤ t j ∧ t j ≤ 99
theorem nmM_up {t : Nat → Int} {i : Nat} {v : Int} (h : nmM t) (hv : 0 ≤ v ∧ v ≤ 99) : nmM (updI t i v) := by
  intro j hj
  unfold updI
  split
  · exact hv
  · exact h j hj
theorem updI_upd (f : Nat → Int) (k : Nat) (x y : Int) : updI (updI f k x) k y = updI f k y := by
  funext j
  unfold updI
  split <;> rfl
theorem lgM_sg (tx : Nat → Int) (len a : Nat) : (a < len ∧ lgM tx len a = sgF tx len a) ∨ (len ≤ a ∧ lgM tx len a = -1 ∧ sgF tx len a = 0) := by
  unfold lgM sgF
  by_cases h : a < len
  · rw [if_pos h, if_pos h]; exact Or.inl ⟨h, rfl⟩
  · rw [if_neg h, if_neg h]; exact Or.inr ⟨by omega, rfl, rfl⟩
theorem rds_0 {tx : Nat → Int} {len i a : Nat} {t : Nat → Int} : rds tx len 0 i a t = some (t, a) := rfl
theorem rds_s {tx : Nat → Int} {len r i a : Nat} {t : Nat → Int} {x : Int × Nat} (h : rd1 tx len a (if r = 0 then 59 else 44) = some x) : rds tx len (r + 1) i a t = rds tx len r (i + 1) x.2 (updI t i x.1) := by rw [rds, h]
theorem rds_n {tx : Nat → Int} {len r i a : Nat} {t : Nat → Int} (h : rd1 tx len a (if r = 0 then 59 else 44) = none) : rds tx len (r + 1) i a t = none := by rw [rds, h]
/-- pegs, winds, roofs, how it begins -/
abbrev MSt : Type := Nat × (Nat → Int) × (Nat → Int) × Nat × (Nat → Int) × (Nat → Int)
def tellM (kind : Int) (t : Nat → Int) (P : MSt) : Option MSt := match P with
  | (np, pg, wn, nr, ro, bg) =>
    if kind = 112 then (if np < 7 ∧ t 0 < 4 ∧ t 1 < 10 ∧ t 2 ≤ 3 then some (np + 1, updI (updI (updI pg (3 * np) (t 0)) (3 * np + 1) (t 1)) (3 * np + 2) (t 2), wn, nr, ro, bg) else none)
    else if kind = 119 then (if 1 ≤ t 0 ∧ t 0 ≤ 9 ∧ t 1 ≤ 4 then some (np, pg, updI wn (t 0).toNat (t 1), nr, ro, bg) else none)
    else if kind = 114 then (if nr < 6 ∧ t 0 ≤ 9 ∧ t 1 ≤ 9 then some (np, pg, wn, nr + 1, updI (updI ro (2 * nr) (t 0)) (2 * nr + 1) (t 1), bg) else none)
    else if kind = 98 then (if t 0 ≤ 9 ∧ t 1 ≤ 9 ∧ 1 ≤ t 2 ∧ t 2 ≤ 9 ∧ t 3 ≤ 3 then some (np, pg, wn, nr, ro, updI (updI (updI (updI bg 0 (t 0)) 1 (t 1)) 2 (t 2)) 3 (t 3)) else none)
    else if kind = 116 then (if 1 ≤ t 0 ∧ t 0 ≤ 2 then some (np, pg, wn, nr, ro, updI bg 5 (t 0)) else none)
    else none
section TELLM
variable {k : Int} {t : Nat → Int} {np nr : Nat} {pg wn ro bg : Nat → Int}
theorem tellM_p (hk : k = 112) (hc : np < 7 ∧ t 0 < 4 ∧ t 1 < 10 ∧ t 2 ≤ 3) : tellM k t (np, pg, wn, nr, ro, bg) = some (np + 1, updI (updI (updI pg (3 * np) (t 0)) (3 * np + 1) (t 1)) (3 * np + 2) (t 2), wn, nr, ro, bg) := by
  show (if k = 112 then _ else _) = _
  rw [if_pos hk, if_pos hc]
theorem tellM_pn (hk : k = 112) (hc : ¬ (np < 7 ∧ t 0 < 4 ∧ t 1 < 10 ∧ t 2 ≤ 3)) : tellM k t (np, pg, wn, nr, ro, bg) = none := by
  show (if k = 112 then _ else _) = _
  rw [if_pos hk, if_neg hc]
theorem tellM_w (hk : k = 119) (hc : 1 ≤ t 0 ∧ t 0 ≤ 9 ∧ t 1 ≤ 4) : tellM k t (np, pg, wn, nr, ro, bg) = some (np, pg, updI wn (t 0).toNat (t 1), nr, ro, bg) := by
  show (if k = 112 then _ else _) = _
  rw [if_neg (by omega), if_pos hk, if_pos hc]
theorem tellM_wn (hk : k = 119) (hc : ¬ (1 ≤ t 0 ∧ t 0 ≤ 9 ∧ t 1 ≤ 4)) : tellM k t (np, pg, wn, nr, ro, bg) = none := by
  show (if k = 112 then _ else _) = _
  rw [if_neg (by omega), if_pos hk, if_neg hc]
theorem tellM_r (hk : k = 114) (hc : nr < 6 ∧ t 0 ≤ 9 ∧ t 1 ≤ 9) : tellM k t (np, pg, wn, nr, ro, bg) = some (np, pg, wn, nr + 1, updI (updI ro (2 * nr) (t 0)) (2 * nr + 1) (t 1), bg) := by
  show (if k = 112 then _ else _) = _
  rw [if_neg (by omega), if_neg (by omega), if_pos hk, if_pos hc]
theorem tellM_rn (hk : k = 114) (hc : ¬ (nr < 6 ∧ t 0 ≤ 9 ∧ t 1 ≤ 9)) : tellM k t (np, pg, wn, nr, ro, bg) = none := by
  show (if k = 112 then _ else _) = _
  rw [if_neg (by omega), if_neg (by omega), if_pos hk, if_neg hc]
theorem tellM_b (hk : k = 98) (hc : t 0 ≤ 9 ∧ t 1 ≤ 9 ∧ 1 ≤ t 2 ∧ t 2 ≤ 9 ∧ t 3 ≤ 3) : tellM k t (np, pg, wn, nr, ro, bg) = some (np, pg, wn, nr, ro, updI (updI (updI (updI bg 0 (t 0)) 1 (t 1)) 2 (t 2)) 3 (t 3)) := by
  show (if k = 112 then _ else _) = _
  rw [if_neg (by omega), if_neg (by omega), if_neg (by omega), if_pos hk, if_pos hc]
theorem tellM_bn (hk : k = 98) (hc : ¬ (t 0 ≤ 9 ∧ t 1 ≤ 9 ∧ 1 ≤ t 2 ∧ t 2 ≤ 9 ∧ t 3 ≤ 3)) : tellM k t (np, pg, wn, nr, ro, bg) = none := by
  show (if k = 112 then _ else _) = _
  rw [if_neg (by omega), if_neg (by omega), if_neg (by omega), if_pos hk, if_neg hc]
theorem tellM_t (hk : k = 116) (hc : 1 ≤ t 0 ∧ t 0 ≤ 2) : tellM k t (np, pg, wn, nr, ro, bg) = some (np, pg, wn, nr, ro, updI bg 5 (t 0)) := by
  show (if k = 112 then _ else _) = _
  rw [if_neg (by omega), if_neg (by omega), if_neg (by omega), if_neg (by omega), if_pos hk, if_pos hc]
theorem tellM_tn (hk : k = 116) (hc : ¬ (1 ≤ t 0 ∧ t 0 ≤ 2)) : tellM k t (np, pg, wn, nr, ro, bg) = none := by
  show (if k = 112 then _ else _) = _
  rw [if_neg (by omega), if_neg (by omega), if_neg (by omega), if_neg (by omega), if_pos hk, if_neg hc]
theorem tellM_d (h : ¬ k = 112 ∧ ¬ k = 119 ∧ ¬ k = 114 ∧ ¬ k = 98 ∧ ¬ k = 116) : tellM k t (np, pg, wn, nr, ro, bg) = none := by
  show (if k = 112 then _ else _) = _
  rw [if_neg h.1, if_neg h.2.1, if_neg h.2.2.1, if_neg h.2.2.2.1, if_neg h.2.2.2.2]
end TELLM
/-- numbers, then what they tell -/
def itK (tx : Nat → Int) (len : Nat) (kind : Int) (n at_ : Nat) (t : Nat → Int) (P : MSt) : Option (MSt × Nat × (Nat → Int)) := match rds tx len n 0 at_ t with
  | none => none
  | some x => match tellM kind x.1 P with
    | none => none
    | some P2 => some (P2, x.2, x.1)
def itM (tx : Nat → Int) (len at_ : Nat) (t : Nat → Int) (P : MSt) : Option (MSt × Nat × (Nat → Int)) := itK tx len (sgF tx len at_) (numsF (sgF tx len at_)) (at_ + 1) t P
def psM (tx : Nat → Int) (len : Nat) : Nat → Nat → (Nat → Int) → MSt → Int × MSt
  | 0, _, _, P => (-4, P)
  | f + 1, at_, t, P => if at_ < len then (match itM tx len at_ t P with
    | none => ((at_ : Int), P)
    | some x => psM tx len f x.2.1 x.2.2 x.1) else (-4, P)
def clrM (P : MSt) : MSt := match P with
  | (_, pg, wn, _, ro, bg) => (0, pg, fillI wn 10 4, 0, ro, updI (updI (updI (updI (updI (updI (updI bg 0 5) 1 5) 2 3) 3 0) 4 0) 5 1) 6 (-1))
section ITM
variable {tx : Nat → Int} {len : Nat} {k : Int} {n a : Nat} {t : Nat → Int} {P P2 : MSt} {x : (Nat → Int) × Nat}
theorem itK_r (h : rds tx len n 0 a t = none) : itK tx len k n a t P = none := by unfold itK; rw [h]
theorem itK_n (h : rds tx len n 0 a t = some x) (h2 : tellM k x.1 P = none) : itK tx len k n a t P = none := by unfold itK; rw [h]; dsimp only; rw [h2]
theorem itK_s (h : rds tx len n 0 a t = some x) (h2 : tellM k x.1 P = some P2) : itK tx len k n a t P = some (P2, x.2, x.1) := by unfold itK; rw [h]; dsimp only; rw [h2]
theorem itK_a (h2 : ∀ t2, tellM k t2 P = none) : itK tx len k n a t P = none := by
  cases h : rds tx len n 0 a t with
  | none => exact itK_r h
  | some x => exact itK_n h (h2 _)
theorem tellM_some {k : Int} {t : Nat → Int} {P P2 : MSt} (h : tellM k t P = some P2) (hn : P.1 ≤ 7) (hr : P.2.2.2.1 ≤ 6) : P2.1 ≤ 7 ∧ P2.2.2.2.1 ≤ 6 ∧ 0 < numsF k := by
  obtain ⟨np, pg, wn, nr, ro, bg⟩ := P
  dsimp only at hn hr
  by_cases h1 : k = 112
  · subst h1
    by_cases hc : np < 7 ∧ t 0 < 4 ∧ t 1 < 10 ∧ t 2 ≤ 3
    · rw [tellM_p rfl hc] at h; cases h; exact ⟨by show np + 1 ≤ 7; omega, hr, by decide⟩
    · rw [tellM_pn rfl hc] at h; cases h
  · by_cases h2 : k = 119
    · subst h2
      by_cases hc : 1 ≤ t 0 ∧ t 0 ≤ 9 ∧ t 1 ≤ 4
      · rw [tellM_w rfl hc] at h; cases h; exact ⟨hn, hr, by decide⟩
      · rw [tellM_wn rfl hc] at h; cases h
    · by_cases h3 : k = 114
      · subst h3
        by_cases hc : nr < 6 ∧ t 0 ≤ 9 ∧ t 1 ≤ 9
        · rw [tellM_r rfl hc] at h; cases h; exact ⟨hn, by show nr + 1 ≤ 6; omega, by decide⟩
        · rw [tellM_rn rfl hc] at h; cases h
      · by_cases h4 : k = 98
        · subst h4
          by_cases hc : t 0 ≤ 9 ∧ t 1 ≤ 9 ∧ 1 ≤ t 2 ∧ t 2 ≤ 9 ∧ t 3 ≤ 3
          · rw [tellM_b rfl hc] at h; cases h; exact ⟨hn, hr, by decide⟩
          · rw [tellM_bn rfl hc] at h; cases h
        · by_cases h5 : k = 116
          · subst h5
            by_cases hc : 1 ≤ t 0 ∧ t 0 ≤ 2
            · rw [tellM_t rfl hc] at h; cases h; exact ⟨hn, hr, by decide⟩
            · rw [tellM_tn rfl hc] at h; cases h
          · rw [tellM_d ⟨h1, h2, h3, h4, h5⟩] at h; cases h
theorem itM_some {y : MSt × Nat × (Nat → Int)} (h : itM tx len a t P = some y) (hn : P.1 ≤ 7) (hr : P.2.2.2.1 ≤ 6) : y.1.1 ≤ 7 ∧ y.1.2.2.2.1 ≤ 6 ∧ y.2.1 ≤ len ∧ a < y.2.1 := by
  unfold itM itK at h
  cases h1 : rds tx len (numsF (sgF tx len a)) 0 (a + 1) t with
  | none => rw [h1] at h; cases h
  | some x =>
    rw [h1] at h
    dsimp only at h
    cases h2 : tellM (sgF tx len a) x.1 P with
    | none => rw [h2] at h; cases h
    | some P2 =>
      rw [h2] at h
      cases h
      have h3 := tellM_some h2 hn hr
      have h4 := rds_le _ _ _ _ _ h1
      exact ⟨h3.1, h3.2.1, h4.2 h3.2.2, by dsimp only; omega⟩
end ITM
