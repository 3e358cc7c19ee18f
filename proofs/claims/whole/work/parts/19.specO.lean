/-! ===== places ===== -/
def plF (np : Nat) (kd h : Nat → Int) : Int := 8 * (100 * h 2 + (10 * h 1 + h 0)) + 2 * h 3 + bI (dblF np kd (h 6))
theorem bI_01 (b : Bool) : 0 ≤ bI b ∧ bI b ≤ 1 := by cases b <;> simp [bI]
theorem plF_rg {np : Nat} {kd h : Nat → Int} (ho : hOK h) : 0 ≤ plF np kd h ∧ plF np kd h < 8000 := by
  obtain ⟨o0, o1, o2, o3, o5, o6⟩ := ho
  have := bI_01 (dblF np kd (h 6))
  unfold plF
  omega
def plN (np : Nat) (kd h : Nat → Int) : Nat := (plF np kd h).toNat
theorem plN_eq {np : Nat} {kd h : Nat → Int} (ho : hOK h) : ((plN np kd h : Nat) : Int) = plF np kd h := Int.toNat_of_nonneg (plF_rg ho).1
theorem plN_lt {np : Nat} {kd h : Nat → Int} (ho : hOK h) : plN np kd h < 8000 := by
  have := plF_rg (np := np) (kd := kd) ho
  unfold plN
  omega
/-- a horse that stands at a place -/
def stF (fd : Int) (f : Nat → Int) (pl : Nat) : Nat → Int := updI (updI (updI (updI (updI f 2 ((pl / 800 : Nat) : Int)) 1 (((pl / 8 : Nat) : Int) / 10 % 10)) 0 (((pl / 8 : Nat) : Int) % 10)) 3 (((pl / 2 : Nat) : Int) % 4)) 6 (if pl % 2 = 1 then fd else -4)
theorem fdF_rg (kd : Nat → Int) : ∀ (n k : Nat), fdF kd n k = -4 ∨ ((k : Int) ≤ fdF kd n k ∧ fdF kd n k < (k : Int) + n)
  | 0, k => Or.inl rfl
  | n + 1, k => by
    rw [fdF]
    split
    · exact Or.inr (by omega)
    · rcases fdF_rg kd n (k + 1) with h | h
      · exact Or.inl h
      · exact Or.inr (by omega)
theorem stF_ok {np : Nat} {kd f : Nat → Int} {pl : Nat} (hn : np ≤ 7) (hf : 1 ≤ f 5 ∧ f 5 ≤ 2) (hp : pl < 8000) : hOK (stF (fdF kd np 0) f pl) := by
  have h6 : -4 ≤ (if pl % 2 = 1 then fdF kd np 0 else -4) ∧ (if pl % 2 = 1 then fdF kd np 0 else -4) < 7 := by
    rcases fdF_rg kd np 0 with h | h <;> split <;> omega
  refine ⟨?_, ?_, ?_, ?_, hf, h6⟩
  · show 0 ≤ ((pl / 8 : Nat) : Int) % 10 ∧ ((pl / 8 : Nat) : Int) % 10 ≤ 9
    omega
  · show 0 ≤ ((pl / 8 : Nat) : Int) / 10 % 10 ∧ ((pl / 8 : Nat) : Int) / 10 % 10 ≤ 9
    omega
  · show 0 ≤ ((pl / 800 : Nat) : Int) ∧ ((pl / 800 : Nat) : Int) ≤ 9
    omega
  · show 0 ≤ ((pl / 2 : Nat) : Int) % 4 ∧ ((pl / 2 : Nat) : Int) % 4 ≤ 3
    omega
def bsF (rd : Int) : Nat → Int := fun i => if i = 5 then rd else 0
/-- the place behind a turn -/
def nxF (np : Nat) (kd lf qt wd : Nat → Int) (rd : Int) (pl p : Nat) : Nat := plN np kd (tnF np kd lf qt wd (stF (fdF kd np 0) (bsF rd) pl) p)
section CLOSED
variable {L Q p : Int} {wd h : Nat → Int}
theorem tnV_0 : tnV L Q wd h p 0 = clampI (clampI (h 0 + eastw ((h 3 + Q) % 4)) 9 + eastw (windF wd (clampI (h 2 + L) 9))) 9 := rfl
theorem tnV_1 : tnV L Q wd h p 1 = clampI (clampI (h 1 + southw ((h 3 + Q) % 4)) 9 + southw (windF wd (clampI (h 2 + L) 9))) 9 := rfl
theorem tnV_2 : tnV L Q wd h p 2 = clampI (h 2 + L) 9 := rfl
theorem tnV_3 : tnV L Q wd h p 3 = (h 3 + Q) % 4 := rfl
theorem tnV_4 : tnV L Q wd h p 4 = h 4 + 1 := rfl
theorem tnV_5 : tnV L Q wd h p 5 = h 5 := rfl
theorem tnV_6 : tnV L Q wd h p 6 = p := rfl
end CLOSED
section CLOSED2
variable {fd : Int} {f : Nat → Int} {pl : Nat}
theorem stF_0 : stF fd f pl 0 = ((pl / 8 : Nat) : Int) % 10 := rfl
theorem stF_1 : stF fd f pl 1 = ((pl / 8 : Nat) : Int) / 10 % 10 := rfl
theorem stF_2 : stF fd f pl 2 = ((pl / 800 : Nat) : Int) := rfl
theorem stF_3 : stF fd f pl 3 = ((pl / 2 : Nat) : Int) % 4 := rfl
theorem stF_5 : stF fd f pl 5 = f 5 := rfl
theorem stF_6 : stF fd f pl 6 = if pl % 2 = 1 then fd else -4 := rfl
end CLOSED2
theorem bsF_5 (rd : Int) : bsF rd 5 = rd := rfl
theorem nxF_eq (np : Nat) (kd lf qt wd f : Nat → Int) (pl p : Nat) : plN np kd (tnF np kd lf qt wd (stF (fdF kd np 0) f pl) p) = nxF np kd lf qt wd (f 5) pl p := by
  unfold nxF plN plF tnF
  simp only [tnV_0, tnV_1, tnV_2, tnV_3, tnV_6, stF_0, stF_1, stF_2, stF_3, stF_5, stF_6, bsF_5]
theorem nxF_lt {np : Nat} {kd lf qt wd : Nat → Int} {rd : Int} {pl p : Nat} (hp : pOK np kd lf qt wd) (hr : 1 ≤ rd ∧ rd ≤ 2) (hl : pl < 8000) (hpn : p < np) : nxF np kd lf qt wd rd pl p < 8000 := plN_lt (tnF_ok hp (stF_ok hp.1 (show 1 ≤ bsF rd 5 ∧ bsF rd 5 ≤ 2 from hr) hl) hpn)
/-! ===== the line: path and place of each place that was met ===== -/
def btI (x : Int) (k : Nat) : Bool := (zz x).toBitVec.getLsbD k
def bitX (k : Nat) : Int32 := zz 1 <<< (zz (k : Int) &&& 31)
theorem bitX_bv : ∀ k, k < 32 → (bitX k).toBitVec = BitVec.twoPow 32 k := by decide +kernel
theorem btI_and {x : Int} {k : Nat} (hk : k < 32) : zz x &&& bitX k = 0 ↔ btI x k = false := by
  rw [← Int32.toBitVec_inj, Int32.toBitVec_and, bitX_bv k hk]
  unfold btI
  constructor
  · intro h
    have h1 := congrArg (fun b => b.getLsbD k) h
    simpa [hk] using h1
  · intro h
    apply BitVec.eq_of_getLsbD_eq
    intro i hi
    simp only [BitVec.getLsbD_and, BitVec.getLsbD_twoPow]
    by_cases e : k = i
    · subst e; simp [h]
    · simp [e]
def orX (x : Int) (k : Nat) : Int := (zz x ||| bitX k).toInt
theorem orX_eq (x : Int) (k : Nat) : zz x ||| bitX k = zz (orX x k) := (Int32.ofInt_toInt _).symm
theorem orX_bt {x : Int} {k j : Nat} (hk : k < 32) (hj : j < 32) : btI (orX x k) j = (btI x j || decide (j = k)) := by
  unfold btI
  rw [← orX_eq, Int32.toBitVec_or, bitX_bv k hk, BitVec.getLsbD_or, BitVec.getLsbD_twoPow]
  simp only [hk, decide_true, Bool.true_and]
  congr 1
  exact decide_eq_decide.mpr ⟨fun h => h.symm, fun h => h.symm⟩
theorem btI_0 (k : Nat) : btI 0 k = false := by unfold btI; simp [zz]
abbrev Qu : Type := List (Nat × Nat)
def QI (lin mts : Nat → Int) (Q : Qu) : Prop := Q.length ≤ 8000 ∧ (∀ (i : Nat) (e : Nat × Nat), Q[i]? = some e → lin i = ((e.1 * 8192 + e.2 : Nat) : Int)) ∧ (∀ pl, pl < 8000 → (btI (mts (pl / 32)) (pl % 32) = true ↔ pl ∈ Q.map Prod.snd)) ∧ (Q.map Prod.snd).Nodup ∧ ∀ e ∈ Q, e.2 < 8000
def mtF (Q : Qu) (e : Nat × Nat) : Qu := if e.2 ∈ Q.map Prod.snd then Q else Q ++ [e]
theorem holes : ∀ (m : Nat) (l : List Nat), l.Nodup → (∀ x ∈ l, x < m) → l.length ≤ m := by
  intro m
  induction m with
  | zero =>
    intro l _ h
    cases l with
    | nil => exact Nat.le_refl 0
    | cons a l => exact absurd (h a List.mem_cons_self) (Nat.not_lt_zero a)
  | succ m ih =>
    intro l hn h
    have h1 := ih (l.filter (fun x => decide (x ≠ m))) (hn.filter _) (fun x hx => by
      have h2 := List.mem_filter.mp hx
      have h3 := h x h2.1
      have h4 : x ≠ m := of_decide_eq_true h2.2
      omega)
    have h2 : l.length ≤ (l.filter (fun x => decide (x ≠ m))).length + 1 := by
      have h3 := List.length_eq_countP_add_countP (p := fun x => decide (x ≠ m)) (l := l)
      have h4 : l.countP (fun x => !decide (x ≠ m)) ≤ 1 := by
        have h5 : l.countP (fun x => !decide (x ≠ m)) = l.count m := by
          unfold List.count
          congr 1
          funext x
          by_cases e : x = m <;> simp [e]
        rw [h5]
        exact List.nodup_iff_count.mp hn m
      rw [List.countP_eq_length_filter] at h3
      have h6 : l.countP (fun a => decide ¬ (decide (a ≠ m)) = true) = l.countP (fun x => !decide (x ≠ m)) := by
        congr 1
        funext x
        by_cases e : x = m <;> simp [e]
      omega
    omega
/-- with 8000 places met, every place has been met -/
theorem QI_full {lin mts : Nat → Int} {Q : Qu} (h : QI lin mts Q) (hl : 8000 ≤ Q.length) {pl : Nat} (hp : pl < 8000) : pl ∈ Q.map Prod.snd := by
  by_cases hm : pl ∈ Q.map Prod.snd
  · exact hm
  · have h1 := holes 8000 (pl :: Q.map Prod.snd) (List.nodup_cons.mpr ⟨hm, h.2.2.2.1⟩) (fun x hx => by
      rcases List.mem_cons.mp hx with e | e
      · rw [e]; exact hp
      · obtain ⟨q, hq, rfl⟩ := List.mem_map.mp e
        exact h.2.2.2.2 q hq)
    rw [List.length_cons, List.length_map] at h1
    omega
theorem QI_add {lin mts : Nat → Int} {Q : Qu} (h : QI lin mts Q) (hl : Q.length < 8000) {pa pl : Nat} (hp : pl < 8000) (hm : pl ∉ Q.map Prod.snd) : QI (updI lin Q.length ((pa * 8192 + pl : Nat) : Int)) (updI mts (pl / 32) (orX (mts (pl / 32)) (pl % 32))) (Q ++ [(pa, pl)]) := by
  obtain ⟨h1, h2, h3, h4, h5⟩ := h
  refine ⟨by rw [List.length_append]; simp; omega, ?_, ?_, ?_, ?_⟩
  · intro i e he
    rcases Nat.lt_or_ge i Q.length with q | q
    · rw [List.getElem?_append_left q] at he
      rw [updI_ne (by omega)]
      exact h2 i e he
    · rw [List.getElem?_append_right q] at he
      have hz : i - Q.length < 1 := (List.getElem?_eq_some_iff.mp he).1
      have hi : i = Q.length := by omega
      subst hi
      rw [Nat.sub_self] at he
      cases he
      exact updI_eq _ _ _
  · intro x hx
    rw [List.map_append, List.mem_append]
    show _ ↔ x ∈ Q.map Prod.snd ∨ x ∈ [pl]
    rw [List.mem_singleton, ← h3 x hx]
    by_cases e : x / 32 = pl / 32
    · rw [e, updI_eq, orX_bt (by omega) (by omega), Bool.or_eq_true, decide_eq_true_eq]
      have : x % 32 = pl % 32 ↔ x = pl := by omega
      rw [this]
    · rw [updI_ne e]
      constructor
      · exact Or.inl
      · rintro (z | z)
        · exact z
        · subst z; exact absurd rfl e
  · rw [List.map_append]
    exact List.nodup_append.mpr ⟨h4, by simp, fun a ha b hb => by
      rw [show b = pl from List.mem_singleton.mp hb]
      exact fun z => hm (z ▸ ha)⟩
  · intro e he
    rcases List.mem_append.mp he with q | q
    · exact h5 e q
    · rw [show e = (pa, pl) from List.mem_singleton.mp q]
      exact hp
/-- all pegs from a place -/
def exF (nx : Nat → Nat → Nat) (e : Nat × Nat) : Nat → Nat → Qu → Qu
  | 0, _, Q => Q
  | n + 1, p, Q => exF nx e n (p + 1) (mtF Q (8 * e.1 + p, nx e.2 p))
/-- one turn more -/
def grF (nx : Nat → Nat → Nat) (np : Nat) : Nat → Nat → Qu → Qu
  | 0, _, Q => Q
  | n + 1, i, Q => grF nx np n (i + 1) (if 0 < (Q.getD i (0, 0)).2 / 800 then exF nx (Q.getD i (0, 0)) np 0 Q else Q)
def dnF (pl : Nat) (x y : Int) : Prop := pl / 800 = 0 ∧ ((pl / 8 : Nat) : Int) % 10 = x ∧ ((pl / 8 : Nat) : Int) / 10 % 10 = y
def ptF (Q : Qu) (x y : Int) : Nat → Nat → Int
  | 0, _ => -1
  | n + 1, i => if (Q.getD i (0, 0)).2 / 800 = 0 ∧ (((Q.getD i (0, 0)).2 / 8 : Nat) : Int) % 10 = x ∧ (((Q.getD i (0, 0)).2 / 8 : Nat) : Int) / 10 % 10 = y then ((Q.getD i (0, 0)).1 : Int) else ptF Q x y n (i + 1)
def bitsTo (c : Nat → Bool) : Nat → Nat
  | 0 => 0
  | n + 1 => if c n then bitsTo c n ||| 2 ^ n else bitsTo c n
theorem or_line (pa pl : Nat) (h : pl < 8000) : pa * 2 ^ 13 ||| pl = pa * 8192 + pl := by
  have := Nat.two_pow_add_eq_or_of_lt (i := 13) (b := pl) (by omega) pa
  rw [Nat.mul_comm pa (2 ^ 13), ← this]
theorem Q_at {Q : Qu} {i : Nat} (h : i < Q.length) : Q[i]? = some (Q.getD i (0, 0)) := by
  rw [List.getD_eq_getElem?_getD, List.getElem?_eq_getElem h]
  rfl
theorem mtF_len {Q : Qu} {e : Nat × Nat} : Q.length ≤ (mtF Q e).length := by
  unfold mtF
  split
  · exact Nat.le_refl _
  · simp
theorem mtF_mem {Q : Qu} {e x : Nat × Nat} (h : x ∈ mtF Q e) : x ∈ Q ∨ x = e := by
  unfold mtF at h
  split at h
  · exact Or.inl h
  · rcases List.mem_append.mp h with q | q
    · exact Or.inl q
    · exact Or.inr (List.mem_singleton.mp q)
theorem rr_if_neX {E : Ev} {M : Mt} {d kc ks pc : Nat} {lv : List (Nat × Value)} {st : List Value} {ws : va_W} {post : Option Value → va_W → Prop} {x : Int32} {off : Int} (tgt : Nat) (hd : decode M.2.1 pc = .ok (.ifCond .ne off, 3)) (ht : (pc : Int) + off = (tgt : Int))
    (kt : ¬ x = 0 → RR E M d kc ks tgt lv st ws post) (kf : x = 0 → RR E M d kc ks (pc + 3) lv st ws post) : RR E M d kc ks pc lv (.int x :: st) ws post := by
  intro p l e R s m args below meth c A mc ms Q cells slots H locs ls hC hF hk hs hP hD hS hl
  exact lv_if_ne hC.1 hC.2.1 hd ht (fun h => kt h _ _ _ _ _ _ _ _ _ _ _ _ _ _ _ _ _ _ _ hC hF hk hs hP hD hS hl) (fun h => kf h _ _ _ _ _ _ _ _ _ _ _ _ _ _ _ _ _ _ _ hC hF hk hs hP hD hS hl)
/-- the cells of an Outlook, but for its plan's -/
def ouW (E : Ev) (o p fl ln mt fr : Nat) (Q : Qu) (f lin mts : Nat → Int) : va_W := [(o, ob 1 [.ref p, .ref fl, .ref ln, .ref mt, .int (zz (fr : Int)), .int (zz (Q.length : Int))]), (fl, hO f), (ln, aI E 8000 lin), (mt, aI E 250 mts)]
theorem mtF_getD {Q : Qu} {e d : Nat × Nat} {j : Nat} (h : j < Q.length) : (mtF Q e).getD j d = Q.getD j d := by
  unfold mtF
  split
  · rfl
  · rw [List.getD_eq_getElem?_getD, List.getD_eq_getElem?_getD, List.getElem?_append_left h]
