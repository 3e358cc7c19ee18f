/-! ===== the first text ===== -/
abbrev zF : Nat → Int := fun _ => 0
abbrev hZ : Nat → Int := updI (fun _ => 0) 6 (-4)
def txI (i : Nat) : Nat → Int := fun j => if j < i then sB j else 0
theorem txI_0 : txI 0 = fun _ => 0 := by
  funext j
  unfold txI
  rw [if_neg (Nat.not_lt_zero j)]
theorem txI_s (i : Nat) : updI (txI i) i (sB i) = txI (i + 1) := by
  funext j
  unfold updI txI
  by_cases h : j = i
  · subst h
    rw [if_pos rfl, if_pos (by omega)]
  · rw [if_neg h]
    by_cases h2 : j < i
    · rw [if_pos h2, if_pos (by omega)]
    · rw [if_neg h2, if_neg (by omega)]
theorem txI_ok : txOK (txI 82) 82 := by
  refine ⟨by omega, fun j hj => ?_⟩
  unfold txI
  rw [if_pos hj]
  have := sB_rg j hj
  omega
theorem nmZ : nmOK (fun _ => 0) := fun j _ => ⟨by show (-1 : Int) ≤ 0; omega, by show (0 : Int) ≤ 99; omega⟩
section FIRST
variable {tx : Nat → Int} {len f a np nr : Nat} {t kd lf qt wd rx ry s : Nat → Int} {v0 v1 v2 v3 : Int}
theorem ps_p (ha : a < len) (hk : sgF tx len a = 112) (h0 : rd1 tx len (a + 1) 44 = some (v0, a + 3)) (h1 : rd1 tx len (a + 3) 44 = some (v1, a + 5)) (h2 : rd1 tx len (a + 5) 59 = some (v2, a + 7)) (hc : np < 7 ∧ v0 < 4 ∧ v1 < 10 ∧ v2 ≤ 3) : psF tx len (f + 1) a t (np, kd, lf, qt, wd, nr, rx, ry, s) = psF tx len f (a + 7) (updI (updI (updI t 0 v0) 1 v1) 2 v2) (np + 1, updI kd np v0, updI lf np v1, updI qt np v2, wd, nr, rx, ry, s) := by
  have hi : itF tx len a t (np, kd, lf, qt, wd, nr, rx, ry, s) = some ((np + 1, updI kd np v0, updI lf np v1, updI qt np v2, wd, nr, rx, ry, s), a + 7, (updI (updI (updI t 0 v0) 1 v1) 2 v2)) := by
    unfold itF itC
    rw [hk, nums_p, rds_s (r := 2) h0, rds_s (r := 1) h1, rds_s (r := 0) h2, rds_0]
    dsimp only
    rw [tellF_p (t := (updI (updI (updI t 0 v0) 1 v1) 2 v2)) rfl hc]
    rfl
  rw [psF, if_pos ha, hi]
theorem ps_w (ha : a < len) (hk : sgF tx len a = 119) (h0 : rd1 tx len (a + 1) 44 = some (v0, a + 3)) (h1 : rd1 tx len (a + 3) 59 = some (v1, a + 5)) (hc : 1 ≤ v0 ∧ v0 ≤ 9 ∧ v1 ≤ 4) : psF tx len (f + 1) a t (np, kd, lf, qt, wd, nr, rx, ry, s) = psF tx len f (a + 5) (updI (updI t 0 v0) 1 v1) (np, kd, lf, qt, updI wd v0.toNat v1, nr, rx, ry, s) := by
  have hi : itF tx len a t (np, kd, lf, qt, wd, nr, rx, ry, s) = some ((np, kd, lf, qt, updI wd v0.toNat v1, nr, rx, ry, s), a + 5, (updI (updI t 0 v0) 1 v1)) := by
    unfold itF itC
    rw [hk, nums_w, rds_s (r := 1) h0, rds_s (r := 0) h1, rds_0]
    dsimp only
    rw [tellF_w (t := (updI (updI t 0 v0) 1 v1)) rfl hc]
    rfl
  rw [psF, if_pos ha, hi]
theorem ps_r (ha : a < len) (hk : sgF tx len a = 114) (h0 : rd1 tx len (a + 1) 44 = some (v0, a + 3)) (h1 : rd1 tx len (a + 3) 59 = some (v1, a + 5)) (hc : nr < 6 ∧ v0 ≤ 9 ∧ v1 ≤ 9) : psF tx len (f + 1) a t (np, kd, lf, qt, wd, nr, rx, ry, s) = psF tx len f (a + 5) (updI (updI t 0 v0) 1 v1) (np, kd, lf, qt, wd, nr + 1, updI rx nr v0, updI ry nr v1, s) := by
  have hi : itF tx len a t (np, kd, lf, qt, wd, nr, rx, ry, s) = some ((np, kd, lf, qt, wd, nr + 1, updI rx nr v0, updI ry nr v1, s), a + 5, (updI (updI t 0 v0) 1 v1)) := by
    unfold itF itC
    rw [hk, nums_r, rds_s (r := 1) h0, rds_s (r := 0) h1, rds_0]
    dsimp only
    rw [tellF_r (t := (updI (updI t 0 v0) 1 v1)) rfl hc]
    rfl
  rw [psF, if_pos ha, hi]
theorem ps_b (ha : a < len) (hk : sgF tx len a = 98) (h0 : rd1 tx len (a + 1) 44 = some (v0, a + 3)) (h1 : rd1 tx len (a + 3) 44 = some (v1, a + 5)) (h2 : rd1 tx len (a + 5) 44 = some (v2, a + 7)) (h3 : rd1 tx len (a + 7) 59 = some (v3, a + 9)) (hc : v0 ≤ 9 ∧ v1 ≤ 9 ∧ 1 ≤ v2 ∧ v2 ≤ 9 ∧ v3 ≤ 3) : psF tx len (f + 1) a t (np, kd, lf, qt, wd, nr, rx, ry, s) = psF tx len f (a + 9) (updI (updI (updI (updI t 0 v0) 1 v1) 2 v2) 3 v3) (np, kd, lf, qt, wd, nr, rx, ry, updI (updI (updI (updI s 0 v0) 1 v1) 2 v2) 3 v3) := by
  have hi : itF tx len a t (np, kd, lf, qt, wd, nr, rx, ry, s) = some ((np, kd, lf, qt, wd, nr, rx, ry, updI (updI (updI (updI s 0 v0) 1 v1) 2 v2) 3 v3), a + 9, (updI (updI (updI (updI t 0 v0) 1 v1) 2 v2) 3 v3)) := by
    unfold itF itC
    rw [hk, nums_b, rds_s (r := 3) h0, rds_s (r := 2) h1, rds_s (r := 1) h2, rds_s (r := 0) h3, rds_0]
    dsimp only
    rw [tellF_b (t := (updI (updI (updI (updI t 0 v0) 1 v1) 2 v2) 3 v3)) rfl hc]
    rfl
  rw [psF, if_pos ha, hi]
theorem ps_t (ha : a < len) (hk : sgF tx len a = 116) (h0 : rd1 tx len (a + 1) 59 = some (v0, a + 3)) (hc : 1 ≤ v0 ∧ v0 ≤ 2) : psF tx len (f + 1) a t (np, kd, lf, qt, wd, nr, rx, ry, s) = psF tx len f (a + 3) (updI t 0 v0) (np, kd, lf, qt, wd, nr, rx, ry, updI s 5 v0) := by
  have hi : itF tx len a t (np, kd, lf, qt, wd, nr, rx, ry, s) = some ((np, kd, lf, qt, wd, nr, rx, ry, updI s 5 v0), a + 3, (updI t 0 v0)) := by
    unfold itF itC
    rw [hk, nums_t, rds_s (r := 0) h0, rds_0]
    dsimp only
    rw [tellF_t (t := (updI t 0 v0)) rfl hc]
    rfl
  rw [psF, if_pos ha, hi]
end FIRST
def PF : PSt := (5, (updI (updI (updI (updI (updI zF 0 0) 1 0) 2 1) 3 2) 4 3), (updI (updI (updI (updI (updI zF 0 7) 1 3) 2 4) 3 6) 4 9), (updI (updI (updI (updI (updI zF 0 0) 1 1) 2 0) 3 1) 4 3), (updI (updI (updI (updI (fillI zF 10 4) 1 1) 3 2) 5 3) 7 0), 3, (updI (updI (updI zF 0 5) 1 7) 2 2), (updI (updI (updI zF 0 3) 1 7) 2 6), (updI (updI (updI (updI (updI (updI (updI (updI (updI (updI hZ 0 5) 1 5) 2 3) 3 0) 5 1) 0 5) 1 5) 2 3) 3 0) 5 1))
set_option maxRecDepth 100000 in
theorem ps_first : psF (txI 82) 82 200 0 (fun _ => 0) (clrF (0, zF, zF, zF, zF, 0, zF, zF, hZ)) = (-4, PF) := by
  refine (ps_p (f := 199) (a := 0) (by decide) (by decide +kernel) (show rd1 (txI 82) 82 (0 + 1) 44 = some (0, 0 + 3) by decide +kernel) (show rd1 (txI 82) 82 (0 + 3) 44 = some (7, 0 + 5) by decide +kernel) (show rd1 (txI 82) 82 (0 + 5) 59 = some (0, 0 + 7) by decide +kernel) (by decide)).trans ?_
  refine (ps_p (f := 198) (a := 7) (by decide) (by decide +kernel) (show rd1 (txI 82) 82 (7 + 1) 44 = some (0, 7 + 3) by decide +kernel) (show rd1 (txI 82) 82 (7 + 3) 44 = some (3, 7 + 5) by decide +kernel) (show rd1 (txI 82) 82 (7 + 5) 59 = some (1, 7 + 7) by decide +kernel) (by decide)).trans ?_
  refine (ps_p (f := 197) (a := 14) (by decide) (by decide +kernel) (show rd1 (txI 82) 82 (14 + 1) 44 = some (1, 14 + 3) by decide +kernel) (show rd1 (txI 82) 82 (14 + 3) 44 = some (4, 14 + 5) by decide +kernel) (show rd1 (txI 82) 82 (14 + 5) 59 = some (0, 14 + 7) by decide +kernel) (by decide)).trans ?_
  refine (ps_p (f := 196) (a := 21) (by decide) (by decide +kernel) (show rd1 (txI 82) 82 (21 + 1) 44 = some (2, 21 + 3) by decide +kernel) (show rd1 (txI 82) 82 (21 + 3) 44 = some (6, 21 + 5) by decide +kernel) (show rd1 (txI 82) 82 (21 + 5) 59 = some (1, 21 + 7) by decide +kernel) (by decide)).trans ?_
  refine (ps_p (f := 195) (a := 28) (by decide) (by decide +kernel) (show rd1 (txI 82) 82 (28 + 1) 44 = some (3, 28 + 3) by decide +kernel) (show rd1 (txI 82) 82 (28 + 3) 44 = some (9, 28 + 5) by decide +kernel) (show rd1 (txI 82) 82 (28 + 5) 59 = some (3, 28 + 7) by decide +kernel) (by decide)).trans ?_
  refine (ps_w (f := 194) (a := 35) (by decide) (by decide +kernel) (show rd1 (txI 82) 82 (35 + 1) 44 = some (1, 35 + 3) by decide +kernel) (show rd1 (txI 82) 82 (35 + 3) 59 = some (1, 35 + 5) by decide +kernel) (by decide)).trans ?_
  refine (ps_w (f := 193) (a := 40) (by decide) (by decide +kernel) (show rd1 (txI 82) 82 (40 + 1) 44 = some (3, 40 + 3) by decide +kernel) (show rd1 (txI 82) 82 (40 + 3) 59 = some (2, 40 + 5) by decide +kernel) (by decide)).trans ?_
  refine (ps_w (f := 192) (a := 45) (by decide) (by decide +kernel) (show rd1 (txI 82) 82 (45 + 1) 44 = some (5, 45 + 3) by decide +kernel) (show rd1 (txI 82) 82 (45 + 3) 59 = some (3, 45 + 5) by decide +kernel) (by decide)).trans ?_
  refine (ps_w (f := 191) (a := 50) (by decide) (by decide +kernel) (show rd1 (txI 82) 82 (50 + 1) 44 = some (7, 50 + 3) by decide +kernel) (show rd1 (txI 82) 82 (50 + 3) 59 = some (0, 50 + 5) by decide +kernel) (by decide)).trans ?_
  refine (ps_r (f := 190) (a := 55) (by decide) (by decide +kernel) (show rd1 (txI 82) 82 (55 + 1) 44 = some (5, 55 + 3) by decide +kernel) (show rd1 (txI 82) 82 (55 + 3) 59 = some (3, 55 + 5) by decide +kernel) (by decide)).trans ?_
  refine (ps_r (f := 189) (a := 60) (by decide) (by decide +kernel) (show rd1 (txI 82) 82 (60 + 1) 44 = some (7, 60 + 3) by decide +kernel) (show rd1 (txI 82) 82 (60 + 3) 59 = some (7, 60 + 5) by decide +kernel) (by decide)).trans ?_
  refine (ps_r (f := 188) (a := 65) (by decide) (by decide +kernel) (show rd1 (txI 82) 82 (65 + 1) 44 = some (2, 65 + 3) by decide +kernel) (show rd1 (txI 82) 82 (65 + 3) 59 = some (6, 65 + 5) by decide +kernel) (by decide)).trans ?_
  refine (ps_b (f := 187) (a := 70) (by decide) (by decide +kernel) (show rd1 (txI 82) 82 (70 + 1) 44 = some (5, 70 + 3) by decide +kernel) (show rd1 (txI 82) 82 (70 + 3) 44 = some (5, 70 + 5) by decide +kernel) (show rd1 (txI 82) 82 (70 + 5) 44 = some (3, 70 + 7) by decide +kernel) (show rd1 (txI 82) 82 (70 + 7) 59 = some (0, 70 + 9) by decide +kernel) (by decide)).trans ?_
  refine (ps_t (f := 186) (a := 79) (by decide) (by decide +kernel) (show rd1 (txI 82) 82 (79 + 1) 59 = some (1, 79 + 3) by decide +kernel) (by decide)).trans ?_
  rfl
theorem GP_first : GP PF := by
  have h := (fa_rel (tx := txI 82) (tx2 := txI 82) (len := 82) (fun _ => rfl) (fun _ => 0) (fun _ => 0) (P := (0, zF, zF, zF, zF, 0, zF, zF, hZ)) (0, zF, zF, 0, zF, zF) rfl rfl).2.1
  rw [ps_first] at h
  exact h
