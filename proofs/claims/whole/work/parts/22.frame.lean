/-! ===== worlds up to their order ===== -/
theorem va_D_iff {A : Nat → Prop} {ws : va_W} : va_D A ws ↔ (ws.map Prod.fst).Nodup ∧ ∀ q ∈ ws, A q.1 := by
  constructor
  · intro h
    refine ⟨?_, fun q hq => ?_⟩
    · refine List.pairwise_iff_getElem.mpr (fun i j hi hj hij hc => ?_)
      rw [List.length_map] at hi hj
      rw [List.getElem_map, List.getElem_map] at hc
      have e := h.1 i j _ _ (List.getElem?_eq_getElem hi) (List.getElem?_eq_getElem hj) hc
      omega
    · obtain ⟨k, hk⟩ := List.getElem?_of_mem hq
      exact h.2 k q hk
  · rintro ⟨h1, h2⟩
    refine ⟨fun i j p q hi hj hpq => ?_, fun k q hk => h2 q (List.mem_of_getElem? hk)⟩
    have h1 := List.pairwise_iff_getElem.mp h1
    obtain ⟨li, ei⟩ := List.getElem?_eq_some_iff.mp hi
    obtain ⟨lj, ej⟩ := List.getElem?_eq_some_iff.mp hj
    rcases Nat.lt_trichotomy i j with c | c | c
    · exact absurd (by rw [List.getElem_map, List.getElem_map, ei, ej]; exact hpq) (h1 i j (by rw [List.length_map]; exact li) (by rw [List.length_map]; exact lj) c)
    · exact c
    · exact absurd (by rw [List.getElem_map, List.getElem_map, ei, ej]; exact hpq.symm) (h1 j i (by rw [List.length_map]; exact lj) (by rw [List.length_map]; exact li) c)
theorem va_P_iff {D : va_G} {cl : List vw_C} {ws : va_W} {H : Heap} : va_P D cl ws H ↔ ∀ q ∈ ws, va_at D cl q H := by
  constructor
  · intro h q hq
    obtain ⟨k, hk⟩ := List.getElem?_of_mem hq
    exact h k q hk
  · intro h k q hk
    exact h q (List.mem_of_getElem? hk)
theorem va_P.perm {D : va_G} {cl : List vw_C} {ws ws2 : va_W} {H : Heap} (hp : ws.Perm ws2) (h : va_P D cl ws H) : va_P D cl ws2 H := by
  rw [va_P_iff] at h ⊢
  exact fun q hq => h q (hp.mem_iff.mpr hq)
theorem va_D.perm {A : Nat → Prop} {ws ws2 : va_W} (hp : ws.Perm ws2) (h : va_D A ws) : va_D A ws2 := by
  rw [va_D_iff] at h ⊢
  exact ⟨(hp.map Prod.fst).nodup_iff.mp h.1, fun q hq => h.2 q (hp.mem_iff.mpr hq)⟩
theorem RR.perm {E : Ev} {M : Mt} {d kc ks pc : Nat} {lv : List (Nat × Value)} {st : List Value} {ws ws2 : va_W} {post : Option Value → va_W → Prop} (h : ws.Perm ws2) (K : RR E M d kc ks pc lv st ws2 post) : RR E M d kc ks pc lv st ws post := by
  intro p l e R s m args below meth c A mc ms Q cells slots H locs ls hC hF hk hs hP hD hS hl
  exact K _ _ _ _ _ _ _ _ _ _ _ _ _ _ _ _ _ _ _ hC hF hk hs (hP.perm h) (hD.perm h) hS hl
theorem map_range {α : Type} (ws : List α) : (List.range ws.length).map (fun i => ws[i]?) = ws.map some := by
  apply List.ext_getElem?
  intro i
  rw [List.getElem?_map, List.getElem?_map]
  by_cases h : i < ws.length
  · rw [List.getElem?_range h, List.getElem?_eq_getElem h]
    simp [h]
  · rw [List.getElem?_eq_none (by rw [List.length_range]; omega), List.getElem?_eq_none (by omega)]
    rfl
theorem perm_idx {ws ws2 : va_W} (ps : List Nat) (n : Nat) (hl : ws.length = n) (h : ps.map (fun i => ws[i]?) = ws2.map some) (hn : ps.isPerm (List.range n) = true) : ws.Perm ws2 := by
  subst hl
  have h1 : ps.Perm (List.range ws.length) := List.isPerm_iff.mp hn
  have h2 := h1.map (fun i => ws[i]?)
  rw [h, map_range] at h2
  have h3 := h2.filterMap id
  rw [List.filterMap_map, List.filterMap_map] at h3
  simpa using h3.symm
set_option maxHeartbeats 4000000 in
/-- a call over a part of the world, whatever its order -/
theorem rr_callP {E : Ev} {M : Mt} {d pc kc ks kc2 ks2 : Nat} {lv : List (Nat × Value)} {st st0 : List Value} {ws wc wr : va_W} {post postC : Option Value → va_W → Prop} (C : CALL E M d pc st0 st kc2 ks2 wc postC) (hw : ws.Perm (wc ++ wr)) (h1 : kc2 ≤ kc) (h2 : ks2 ≤ ks)
    (K : ∀ (v : Option Value) (w1 : va_W), postC v w1 → RR E M d (kc - kc2) (ks - ks2) (pc + 3) lv (v.toList ++ st) (w1 ++ wr) post) : RR E M d kc ks pc lv st0 ws post := by
  refine RR.perm hw ?_
  have e1 : (List.range wc.length).map (fun i => (wc ++ wr)[i]?) = wc.map some := by
    rw [← map_range wc]
    apply List.map_congr_left
    intro i hi
    rw [List.getElem?_append_left (List.mem_range.mp hi)]
  have e2 : ((List.range wr.length).map (fun i => wc.length + i)).map (fun i => (wc ++ wr)[i]?) = wr.map some := by
    rw [List.map_map, ← map_range wr]
    apply List.map_congr_left
    intro i hi
    show (wc ++ wr)[wc.length + i]? = wr[i]?
    rw [List.getElem?_append_right (by omega), Nat.add_sub_cancel_left]
  have nd : ∀ l : List Nat, l.Nodup → va_nd l = true := by
    intro l
    induction l with
    | nil => intro _; rfl
    | cons a l ih =>
      intro h
      have h3 := List.nodup_cons.mp h
      simp [va_nd, h3.1, ih h3.2]
  have n1 : va_nd (List.range wc.length) = true := nd _ List.nodup_range
  have n2 : va_nd ((List.range wr.length).map (fun i => wc.length + i)) = true := nd _ (List.Pairwise.map (R := (· ≠ ·)) _ (fun a b hab => by omega) List.nodup_range)
  refine rr_call C (List.range wc.length) ((List.range wr.length).map (fun i => wc.length + i)) e1 n1 e2 n2 ?_ h1 h2 (fun v w1 hp => RR.perm List.perm_append_comm (K v w1 hp))
  rw [List.all_eq_true]
  intro i hi
  obtain ⟨j, -, rfl⟩ := List.mem_map.mp hi
  simp
