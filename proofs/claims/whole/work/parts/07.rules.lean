/-! ===== rows for instructions ===== -/
abbrev ob (ci : Nat) (fs : List Value) : va_E := .inr (ci, fs)
def aI (E : Ev) (n : Nat) (f : Nat → Int) : va_E := .inl (eI E, n, .inl (fun j => zz (f j)))
def aC (E : Ev) (n : Nat) (f : Nat → Int) : va_E := .inl (eC E, n, .inl (fun j => zz (f j)))
def aH (E : Ev) (n : Nat) (f : Nat → Option Nat) : va_E := .inl (eH E, n, .inr (.inr (.inr (.inr f))))
def bI (b : Bool) : Int := if b then 1 else 0
theorem nar_b (b : Bool) : narrow .boolean (.int (zz (bI b))) = .int (zz (bI b)) := by cases b <;> rfl
def lvins : List (Nat × Value) → Nat → Value → List (Nat × Value)
  | [], i, v => [(i, v)]
  | q :: l, i, v => if i < q.1 then (i, v) :: q :: l else q :: lvins l i v
theorem lvins_mem {i : Nat} {v : Value} : ∀ {l : List (Nat × Value)} {q : Nat × Value}, q ∈ lvins l i v → q = (i, v) ∨ q ∈ l
  | [], q, h => Or.inl (List.mem_singleton.mp h)
  | a :: l, q, h => by
    unfold lvins at h
    split at h
    · rcases List.mem_cons.mp h with h | h
      · exact Or.inl h
      · exact Or.inr h
    · rcases List.mem_cons.mp h with h | h
      · exact Or.inr (by rw [h]; exact List.mem_cons_self)
      · rcases lvins_mem h with h | h
        · exact Or.inl h
        · exact Or.inr (List.mem_cons_of_mem _ h)
def lvs1 (lv : List (Nat × Value)) (i : Nat) (v : Value) : List (Nat × Value) := lvins (lv.filter (fun q => !(q.1 == i) && !(q.1 + 1 == i && q.2.category == 2))) i v
def lvs2 (lv : List (Nat × Value)) (i : Nat) (v : Value) : List (Nat × Value) := lvins (lv.filter (fun q => !(q.1 == i) && (!(q.1 == i + 1) && !(q.1 + 1 == i && q.2.category == 2)))) i v
theorem lv_has.ins {ls : Array Slot} {n i : Nat} {v : Value} {l : List (Nat × Value)} (h : lv_has ls n ((i, v) :: l)) : lv_has ls n (lvins l i v) :=
  ⟨h.1, h.2.1, fun q hq => by
    rcases lvins_mem hq with e | e
    · rw [e]; exact h.2.2 _ List.mem_cons_self
    · exact h.2.2 _ (List.mem_cons_of_mem _ e)⟩
/-- fields by a pool's index: their object's kind, their place, their type, final -/
def Fok (own : String) (idx ci k : Nat) (ty : FieldType) (fin : Bool) : Prop := ∃ (C : String) (T : u_T) (N : Nat) (ty0 : Nat → FieldType), vwCl[ci]? = some (C, T, N) ∧ k < N ∧ (∀ w ∈ u_ws C T N, w ∈ gW) ∧ (∀ k, k < N → parseFieldDescriptor (T k).2.2.1 = some (ty0 k)) ∧ (∀ a, a < N → ∀ b, b < N → a ≠ b → (T a).2.1 ≠ (T b).2.1) ∧ Cond.fieldLink own idx (T k).1 (T k).2.1 (T k).2.2.1 ∈ gW ∧ (T k).2.2.2 = fin ∧ parseFieldDescriptor (T k).2.2.1 = some ty ∧ (T k).1 = C
/-- a class that can be made -/
def Nok (own : String) (idx ci N : Nat) (fs : List Value) : Prop := ∃ (C : String) (T : u_T) (ty0 : Nat → FieldType), vwCl[ci]? = some (C, T, N) ∧ (∀ w ∈ u_ws C T N, w ∈ gW) ∧ (∀ k, k < N → parseFieldDescriptor (T k).2.2.1 = some (ty0 k)) ∧ (∀ w ∈ [Cond.classLink own idx C, .instantiable C N, .initialized C], w ∈ gW) ∧ (∀ j, j < N → defaultValue (ty0 j) = vp_V fs j)
section RULES
variable {E : Ev} {M : Mt} {d kc ks pc : Nat} {lv lv2 : List (Nat × Value)} {st : List Value} {ws ws2 : va_W} {post : Option Value → va_W → Prop}
/-- a step that touches the stack alone -/
theorem rr_go {pc2 : Nat} {st2 : List Value} (h : ∀ (p : Program) (l : Launch) (e : Env) (R : Room) (s : State) (m : MethodId) (args : Array Value) (below : List Frame) (meth : Method) (c : Code) (H : Heap) (locs : List Loc) (cells slots : Nat) (Q : State → Prop) (ls : Array Slot), p.tables.exec = Jvm.exec → c.code = M.2.1 → lv_has ls M.2.2.1 lv → W p l e R s m args below meth c H locs cells slots Q (F0 m pc2 ls st2) → W p l e R s m args below meth c H locs cells slots Q (F0 m pc ls st))
    (K : RR E M d kc ks pc2 lv st2 ws post) : RR E M d kc ks pc lv st ws post := by
  intro p l e R s m args below meth c A mc ms Q cells slots H locs ls hC hF hk hs hP hD hS hl
  exact h p l e R s m args below meth c H locs cells slots Q ls hC.1 hC.2.1 hl (K _ _ _ _ _ _ _ _ _ _ _ _ _ _ _ _ _ _ _ hC hF hk hs hP hD hS hl)
theorem rr_iconst {n : Int} (hd : decode M.2.1 pc = .ok (.iconst n, 1)) (K : RR E M d kc ks (pc + 1) lv (.int (zz n) :: st) ws post) : RR E M d kc ks pc lv st ws post :=
  rr_go (fun _ _ _ _ _ _ _ _ _ _ _ _ _ _ _ _ hx hb _ k => lv_iconst hx hb hd rfl k) K
theorem rr_bipush {n : Int} (hd : decode M.2.1 pc = .ok (.bipush n, 2)) (hv : (Int8.ofInt n).toInt32 = zz n) (K : RR E M d kc ks (pc + 2) lv (.int (zz n) :: st) ws post) : RR E M d kc ks pc lv st ws post :=
  rr_go (fun _ _ _ _ _ _ _ _ _ _ _ _ _ _ _ _ hx hb _ k => lv_bipush hx hb hd hv k) K
theorem rr_sipush {n : Int} (hd : decode M.2.1 pc = .ok (.sipush n, 3)) (hv : (Int16.ofInt n).toInt32 = zz n) (K : RR E M d kc ks (pc + 3) lv (.int (zz n) :: st) ws post) : RR E M d kc ks pc lv st ws post :=
  rr_go (fun _ _ _ _ _ _ _ _ _ _ _ _ _ _ _ _ hx hb _ k => lv_sipush hx hb hd hv k) K
theorem rr_lconst {n : Fin 2} {v : Int64} (hd : decode M.2.1 pc = .ok (.lconst n, 1)) (hv : Int64.ofNat (n : Nat) = v) (K : RR E M d kc ks (pc + 1) lv (.long v :: st) ws post) : RR E M d kc ks pc lv st ws post :=
  rr_go (fun _ _ _ _ _ _ _ _ _ _ _ _ _ _ _ _ hx hb _ k => lv_lconst hx hb hd hv k) K
theorem rr_iload_n {k : Fin 4} {x : Int32} (j : Nat) (hd : decode M.2.1 pc = .ok (.iload_n k, 1)) (hj : lv[j]? = some ((k : Nat), .int x)) (K : RR E M d kc ks (pc + 1) lv (.int x :: st) ws post) : RR E M d kc ks pc lv st ws post :=
  rr_go (fun _ _ _ _ _ _ _ _ _ _ _ _ _ _ _ _ hx hb hl kk => lv_iload_n hx hb hd rfl (lv_at hl j hj) kk) K
theorem rr_iload {i : Nat} {x : Int32} (j : Nat) (hd : decode M.2.1 pc = .ok (.iload i, 2)) (hj : lv[j]? = some (i, .int x)) (K : RR E M d kc ks (pc + 2) lv (.int x :: st) ws post) : RR E M d kc ks pc lv st ws post :=
  rr_go (fun _ _ _ _ _ _ _ _ _ _ _ _ _ _ _ _ hx hb hl kk => lv_iload hx hb hd (lv_at hl j hj) kk) K
theorem rr_lload_n {k : Fin 4} {x : Int64} (j : Nat) (hd : decode M.2.1 pc = .ok (.lload_n k, 1)) (hj : lv[j]? = some ((k : Nat), .long x)) (K : RR E M d kc ks (pc + 1) lv (.long x :: st) ws post) : RR E M d kc ks pc lv st ws post :=
  rr_go (fun _ _ _ _ _ _ _ _ _ _ _ _ _ _ _ _ hx hb hl kk => lv_lload_n hx hb hd rfl (lv_at hl j hj) kk) K
theorem rr_lload {i : Nat} {x : Int64} (j : Nat) (hd : decode M.2.1 pc = .ok (.lload i, 2)) (hj : lv[j]? = some (i, .long x)) (K : RR E M d kc ks (pc + 2) lv (.long x :: st) ws post) : RR E M d kc ks pc lv st ws post :=
  rr_go (fun _ _ _ _ _ _ _ _ _ _ _ _ _ _ _ _ hx hb hl kk => lv_lload hx hb hd (lv_at hl j hj) kk) K
theorem rr_aload_n {k : Fin 4} {x : Nat} (j : Nat) (hd : decode M.2.1 pc = .ok (.aload_n k, 1)) (hj : lv[j]? = some ((k : Nat), .ref x)) (K : RR E M d kc ks (pc + 1) lv (.ref x :: st) ws post) : RR E M d kc ks pc lv st ws post :=
  rr_go (fun _ _ _ _ _ _ _ _ _ _ _ _ _ _ _ _ hx hb hl kk => lv_aload_n hx hb hd rfl (lv_at hl j hj) kk) K
theorem rr_aload {i x : Nat} (j : Nat) (hd : decode M.2.1 pc = .ok (.aload i, 2)) (hj : lv[j]? = some (i, .ref x)) (K : RR E M d kc ks (pc + 2) lv (.ref x :: st) ws post) : RR E M d kc ks pc lv st ws post :=
  rr_go (fun _ _ _ _ _ _ _ _ _ _ _ _ _ _ _ _ hx hb hl kk => lv_aload hx hb hd (lv_at hl j hj) kk) K
theorem rr_istore_n {k : Fin 4} {x : Int32} (hd : decode M.2.1 pc = .ok (.istore_n k, 1)) (hn : (k : Nat) < M.2.2.1) (hl2 : lvs1 lv k (.int x) = lv2) (K : RR E M d kc ks (pc + 1) lv2 st ws post) : RR E M d kc ks pc lv (.int x :: st) ws post := by
  intro p l e R s m args below meth c A mc ms Q cells slots H locs ls hC hF hk hs hP hD hS hl
  subst hl2
  exact lv_istore_n hC.1 hC.2.1 hd rfl hl hn rfl (fun ls2 hl2 => K _ _ _ _ _ _ _ _ _ _ _ _ _ _ _ _ _ _ _ hC hF hk hs hP hD hS hl2.ins)
theorem rr_istore {i : Nat} {x : Int32} (hd : decode M.2.1 pc = .ok (.istore i, 2)) (hn : i < M.2.2.1) (hl2 : lvs1 lv i (.int x) = lv2) (K : RR E M d kc ks (pc + 2) lv2 st ws post) : RR E M d kc ks pc lv (.int x :: st) ws post := by
  intro p l e R s m args below meth c A mc ms Q cells slots H locs ls hC hF hk hs hP hD hS hl
  subst hl2
  exact lv_istore hC.1 hC.2.1 hd hl hn rfl (fun ls2 hl2 => K _ _ _ _ _ _ _ _ _ _ _ _ _ _ _ _ _ _ _ hC hF hk hs hP hD hS hl2.ins)
theorem rr_lstore_n {k : Fin 4} {x : Int64} (hd : decode M.2.1 pc = .ok (.lstore_n k, 1)) (hn : (k : Nat) + 1 < M.2.2.1) (hl2 : lvs2 lv k (.long x) = lv2) (K : RR E M d kc ks (pc + 1) lv2 st ws post) : RR E M d kc ks pc lv (.long x :: st) ws post := by
  intro p l e R s m args below meth c A mc ms Q cells slots H locs ls hC hF hk hs hP hD hS hl
  subst hl2
  exact lv_lstore_n hC.1 hC.2.1 hd rfl hl hn rfl (fun ls2 hl2 => K _ _ _ _ _ _ _ _ _ _ _ _ _ _ _ _ _ _ _ hC hF hk hs hP hD hS hl2.ins)
theorem rr_lstore {i : Nat} {x : Int64} (hd : decode M.2.1 pc = .ok (.lstore i, 2)) (hn : i + 1 < M.2.2.1) (hl2 : lvs2 lv i (.long x) = lv2) (K : RR E M d kc ks (pc + 2) lv2 st ws post) : RR E M d kc ks pc lv (.long x :: st) ws post := by
  intro p l e R s m args below meth c A mc ms Q cells slots H locs ls hC hF hk hs hP hD hS hl
  subst hl2
  exact lv_lstore hC.1 hC.2.1 hd hl hn rfl (fun ls2 hl2 => K _ _ _ _ _ _ _ _ _ _ _ _ _ _ _ _ _ _ _ hC hF hk hs hP hD hS hl2.ins)
theorem rr_astore_n {k : Fin 4} {x : Nat} (hd : decode M.2.1 pc = .ok (.astore_n k, 1)) (hn : (k : Nat) < M.2.2.1) (hl2 : lvs1 lv k (.ref x) = lv2) (K : RR E M d kc ks (pc + 1) lv2 st ws post) : RR E M d kc ks pc lv (.ref x :: st) ws post := by
  intro p l e R s m args below meth c A mc ms Q cells slots H locs ls hC hF hk hs hP hD hS hl
  subst hl2
  exact lv_astore_n hC.1 hC.2.1 hd rfl hl hn rfl (fun ls2 hl2 => K _ _ _ _ _ _ _ _ _ _ _ _ _ _ _ _ _ _ _ hC hF hk hs hP hD hS hl2.ins)
theorem rr_iinc {i : Nat} {n x : Int} (j : Nat) (hd : decode M.2.1 pc = .ok (.iinc i n, 3)) (hj : lv[j]? = some (i, .int (zz x))) (hn : i < M.2.2.1) (hl2 : lvs1 lv i (.int (zz (x + n))) = lv2) (K : RR E M d kc ks (pc + 3) lv2 st ws post) : RR E M d kc ks pc lv st ws post := by
  intro p l e R s m args below meth c A mc ms Q cells slots H locs ls hC hF hk hs hP hD hS hl
  subst hl2
  exact lv_iinc hC.1 hC.2.1 hd hl hj (v := zz (x + n)) (zz_add x n) hn rfl (fun ls2 hl2 => K _ _ _ _ _ _ _ _ _ _ _ _ _ _ _ _ _ _ _ hC hF hk hs hP hD hS hl2.ins)
theorem rr_iadd {a b : Int} (hd : decode M.2.1 pc = .ok (.iadd, 1)) (K : RR E M d kc ks (pc + 1) lv (.int (zz (a + b)) :: st) ws post) : RR E M d kc ks pc lv (.int (zz b) :: .int (zz a) :: st) ws post :=
  rr_go (fun _ _ _ _ _ _ _ _ _ _ _ _ _ _ _ _ hx hb _ k => lv_iadd hx hb hd (by rw [zz_add]; exact k)) K
theorem rr_isub {a b : Int} (hd : decode M.2.1 pc = .ok (.isub, 1)) (K : RR E M d kc ks (pc + 1) lv (.int (zz (a - b)) :: st) ws post) : RR E M d kc ks pc lv (.int (zz b) :: .int (zz a) :: st) ws post :=
  rr_go (fun _ _ _ _ _ _ _ _ _ _ _ _ _ _ _ _ hx hb _ k => lv_isub hx hb hd (by rw [zz_sub]; exact k)) K
theorem rr_imul {a b : Int} (hd : decode M.2.1 pc = .ok (.imul, 1)) (K : RR E M d kc ks (pc + 1) lv (.int (zz (a * b)) :: st) ws post) : RR E M d kc ks pc lv (.int (zz b) :: .int (zz a) :: st) ws post :=
  rr_go (fun _ _ _ _ _ _ _ _ _ _ _ _ _ _ _ _ hx hb _ k => lv_imul hx hb hd (by rw [zz_mul]; exact k)) K
theorem rr_ineg {a : Int} (hd : decode M.2.1 pc = .ok (.ineg, 1)) (K : RR E M d kc ks (pc + 1) lv (.int (zz (-a)) :: st) ws post) : RR E M d kc ks pc lv (.int (zz a) :: st) ws post :=
  rr_go (fun _ _ _ _ _ _ _ _ _ _ _ _ _ _ _ _ hx hb _ k => lv_ineg hx hb hd (by rw [zz_neg]; exact k)) K
/-- raw ones: what the row gives, under the name that one has for it -/
theorem rr_iandX {x y v : Int32} (hd : decode M.2.1 pc = .ok (.iand, 1)) (hv : x &&& y = v) (K : RR E M d kc ks (pc + 1) lv (.int v :: st) ws post) : RR E M d kc ks pc lv (.int y :: .int x :: st) ws post :=
  rr_go (fun _ _ _ _ _ _ _ _ _ _ _ _ _ _ _ _ hx hb _ k => lv_iand hx hb hd (by rw [hv]; exact k)) K
theorem rr_iorX {x y v : Int32} (hd : decode M.2.1 pc = .ok (.ior, 1)) (hv : x ||| y = v) (K : RR E M d kc ks (pc + 1) lv (.int v :: st) ws post) : RR E M d kc ks pc lv (.int y :: .int x :: st) ws post :=
  rr_go (fun _ _ _ _ _ _ _ _ _ _ _ _ _ _ _ _ hx hb _ k => lv_ior hx hb hd (by rw [hv]; exact k)) K
theorem rr_ishlX {x y v : Int32} (hd : decode M.2.1 pc = .ok (.ishl, 1)) (hv : x <<< (y &&& 31) = v) (K : RR E M d kc ks (pc + 1) lv (.int v :: st) ws post) : RR E M d kc ks pc lv (.int y :: .int x :: st) ws post :=
  rr_go (fun _ _ _ _ _ _ _ _ _ _ _ _ _ _ _ _ hx hb _ k => lv_ishl hx hb hd (by rw [hv]; exact k)) K
theorem rr_ishrX {x y v : Int32} (hd : decode M.2.1 pc = .ok (.ishr, 1)) (hv : x >>> (y &&& 31) = v) (K : RR E M d kc ks (pc + 1) lv (.int v :: st) ws post) : RR E M d kc ks pc lv (.int y :: .int x :: st) ws post :=
  rr_go (fun _ _ _ _ _ _ _ _ _ _ _ _ _ _ _ _ hx hb _ k => lv_ishr hx hb hd (by rw [hv]; exact k)) K
theorem rr_idivX {x y v : Int32} (hd : decode M.2.1 pc = .ok (.idiv, 1)) (hne : ¬ y = 0) (hv : x / y = v) (K : RR E M d kc ks (pc + 1) lv (.int v :: st) ws post) : RR E M d kc ks pc lv (.int y :: .int x :: st) ws post :=
  rr_go (fun _ _ _ _ _ _ _ _ _ _ _ _ _ _ _ _ hx hb _ k => lv_idiv hx hb hd hne (by rw [hv]; exact k)) K
theorem rr_iremX {x y v : Int32} (hd : decode M.2.1 pc = .ok (.irem, 1)) (hne : ¬ y = 0) (hv : x - x / y * y = v) (K : RR E M d kc ks (pc + 1) lv (.int v :: st) ws post) : RR E M d kc ks pc lv (.int y :: .int x :: st) ws post :=
  rr_go (fun _ _ _ _ _ _ _ _ _ _ _ _ _ _ _ _ hx hb _ k => lv_irem hx hb hd hne (by rw [hv]; exact k)) K
theorem rr_i2cX {x v : Int32} (hd : decode M.2.1 pc = .ok (.i2c, 1)) (hv : (x.toUInt32 % 65536).toInt32 = v) (K : RR E M d kc ks (pc + 1) lv (.int v :: st) ws post) : RR E M d kc ks pc lv (.int x :: st) ws post :=
  rr_go (fun _ _ _ _ _ _ _ _ _ _ _ _ _ _ _ _ hx hb _ k => lv_i2c hx hb hd hv k) K
theorem rr_i2lX {x : Int32} {v : Int64} (hd : decode M.2.1 pc = .ok (.i2l, 1)) (hv : x.toInt64 = v) (K : RR E M d kc ks (pc + 1) lv (.long v :: st) ws post) : RR E M d kc ks pc lv (.int x :: st) ws post :=
  rr_go (fun _ _ _ _ _ _ _ _ _ _ _ _ _ _ _ _ hx hb _ k => lv_i2l hx hb hd hv k) K
theorem rr_l2iX {x : Int64} {v : Int32} (hd : decode M.2.1 pc = .ok (.l2i, 1)) (hv : x.toInt32 = v) (K : RR E M d kc ks (pc + 1) lv (.int v :: st) ws post) : RR E M d kc ks pc lv (.long x :: st) ws post :=
  rr_go (fun _ _ _ _ _ _ _ _ _ _ _ _ _ _ _ _ hx hb _ k => lv_l2i hx hb hd hv k) K
theorem rr_laddX {x y v : Int64} (hd : decode M.2.1 pc = .ok (.ladd, 1)) (hv : x + y = v) (K : RR E M d kc ks (pc + 1) lv (.long v :: st) ws post) : RR E M d kc ks pc lv (.long y :: .long x :: st) ws post :=
  rr_go (fun _ _ _ _ _ _ _ _ _ _ _ _ _ _ _ _ hx hb _ k => lv_ladd hx hb hd (by rw [hv]; exact k)) K
theorem rr_lmulX {x y v : Int64} (hd : decode M.2.1 pc = .ok (.lmul, 1)) (hv : x * y = v) (K : RR E M d kc ks (pc + 1) lv (.long v :: st) ws post) : RR E M d kc ks pc lv (.long y :: .long x :: st) ws post :=
  rr_go (fun _ _ _ _ _ _ _ _ _ _ _ _ _ _ _ _ hx hb _ k => lv_lmul hx hb hd (by rw [hv]; exact k)) K
theorem rr_ldivX {x y v : Int64} (hd : decode M.2.1 pc = .ok (.ldiv, 1)) (hne : ¬ y = 0) (hv : x / y = v) (K : RR E M d kc ks (pc + 1) lv (.long v :: st) ws post) : RR E M d kc ks pc lv (.long y :: .long x :: st) ws post :=
  rr_go (fun _ _ _ _ _ _ _ _ _ _ _ _ _ _ _ _ hx hb _ k => lv_ldiv hx hb hd hne (by rw [hv]; exact k)) K
theorem rr_lremX {x y v : Int64} (hd : decode M.2.1 pc = .ok (.lrem, 1)) (hne : ¬ y = 0) (hv : x - x / y * y = v) (K : RR E M d kc ks (pc + 1) lv (.long v :: st) ws post) : RR E M d kc ks pc lv (.long y :: .long x :: st) ws post :=
  rr_go (fun _ _ _ _ _ _ _ _ _ _ _ _ _ _ _ _ hx hb _ k => lv_lrem hx hb hd hne (by rw [hv]; exact k)) K
theorem rr_dup {v : Value} (hd : decode M.2.1 pc = .ok (.dup, 1)) (hv : v.category = 1) (K : RR E M d kc ks (pc + 1) lv (v :: v :: st) ws post) : RR E M d kc ks pc lv (v :: st) ws post :=
  rr_go (fun _ _ _ _ _ _ _ _ _ _ _ _ _ _ _ _ hx hb _ k => lv_dup hx hb hd hv k) K
theorem rr_pop {v : Value} (hd : decode M.2.1 pc = .ok (.pop, 1)) (hv : v.category = 1) (K : RR E M d kc ks (pc + 1) lv st ws post) : RR E M d kc ks pc lv (v :: st) ws post :=
  rr_go (fun _ _ _ _ _ _ _ _ _ _ _ _ _ _ _ _ hx hb _ k => lv_pop hx hb hd hv k) K
theorem rr_dup2 {u v : Value} (hd : decode M.2.1 pc = .ok (.dup2, 1)) (hu : u.category = 1) (hv : v.category = 1) (K : RR E M d kc ks (pc + 1) lv (u :: v :: u :: v :: st) ws post) : RR E M d kc ks pc lv (u :: v :: st) ws post :=
  rr_go (fun _ _ _ _ _ _ _ _ _ _ _ _ _ _ _ _ hx hb _ k => lv_dup2_11 hx hb hd hu hv k) K
theorem rr_dup2l {v : Value} (hd : decode M.2.1 pc = .ok (.dup2, 1)) (hv : v.category = 2) (K : RR E M d kc ks (pc + 1) lv (v :: v :: st) ws post) : RR E M d kc ks pc lv (v :: st) ws post :=
  rr_go (fun _ _ _ _ _ _ _ _ _ _ _ _ _ _ _ _ hx hb _ k => lv_dup2_2 hx hb hd hv k) K
theorem rr_goto {off : Int} (tgt : Nat) (hd : decode M.2.1 pc = .ok (.goto off, 3)) (ht : (pc : Int) + off = (tgt : Int)) (K : RR E M d kc ks tgt lv st ws post) : RR E M d kc ks pc lv st ws post :=
  rr_go (fun _ _ _ _ _ _ _ _ _ _ _ _ _ _ _ _ hx hb _ k => lv_goto hx hb hd ht k) K
theorem rr_icmp_eq {a b : Int} {off : Int} (tgt : Nat) (hd : decode M.2.1 pc = .ok (.if_icmp .eq off, 3)) (ht : (pc : Int) + off = (tgt : Int)) (ha : -2147483648 ≤ a ∧ a < 2147483648) (hb : -2147483648 ≤ b ∧ b < 2147483648)
    (kt : a = b → RR E M d kc ks tgt lv st ws post) (kf : ¬ (a = b) → RR E M d kc ks (pc + 3) lv st ws post) : RR E M d kc ks pc lv (.int (zz b) :: .int (zz a) :: st) ws post := by
  intro p l e R s m args below meth c A mc ms Q cells slots H locs ls hC hF hk hs hP hD hS hl
  exact lv_icmp_eq hC.1 hC.2.1 hd ht (fun h => kt ((zz_eq ha hb).mp h) _ _ _ _ _ _ _ _ _ _ _ _ _ _ _ _ _ _ _ hC hF hk hs hP hD hS hl) (fun h => kf (fun z => h ((zz_eq ha hb).mpr z)) _ _ _ _ _ _ _ _ _ _ _ _ _ _ _ _ _ _ _ hC hF hk hs hP hD hS hl)
theorem rr_icmp_ne {a b : Int} {off : Int} (tgt : Nat) (hd : decode M.2.1 pc = .ok (.if_icmp .ne off, 3)) (ht : (pc : Int) + off = (tgt : Int)) (ha : -2147483648 ≤ a ∧ a < 2147483648) (hb : -2147483648 ≤ b ∧ b < 2147483648)
    (kt : ¬ a = b → RR E M d kc ks tgt lv st ws post) (kf : a = b → RR E M d kc ks (pc + 3) lv st ws post) : RR E M d kc ks pc lv (.int (zz b) :: .int (zz a) :: st) ws post := by
  intro p l e R s m args below meth c A mc ms Q cells slots H locs ls hC hF hk hs hP hD hS hl
  exact lv_icmp_ne hC.1 hC.2.1 hd ht (fun h => kt ((not_congr (zz_eq ha hb)).mp h) _ _ _ _ _ _ _ _ _ _ _ _ _ _ _ _ _ _ _ hC hF hk hs hP hD hS hl) (fun h => kf ((zz_eq ha hb).mp h) _ _ _ _ _ _ _ _ _ _ _ _ _ _ _ _ _ _ _ hC hF hk hs hP hD hS hl)
theorem rr_icmp_lt {a b : Int} {off : Int} (tgt : Nat) (hd : decode M.2.1 pc = .ok (.if_icmp .lt off, 3)) (ht : (pc : Int) + off = (tgt : Int)) (ha : -2147483648 ≤ a ∧ a < 2147483648) (hb : -2147483648 ≤ b ∧ b < 2147483648)
    (kt : a < b → RR E M d kc ks tgt lv st ws post) (kf : ¬ (a < b) → RR E M d kc ks (pc + 3) lv st ws post) : RR E M d kc ks pc lv (.int (zz b) :: .int (zz a) :: st) ws post := by
  intro p l e R s m args below meth c A mc ms Q cells slots H locs ls hC hF hk hs hP hD hS hl
  exact lv_icmp_lt hC.1 hC.2.1 hd ht (fun h => kt ((zz_lt ha hb).mp h) _ _ _ _ _ _ _ _ _ _ _ _ _ _ _ _ _ _ _ hC hF hk hs hP hD hS hl) (fun h => kf (fun z => h ((zz_lt ha hb).mpr z)) _ _ _ _ _ _ _ _ _ _ _ _ _ _ _ _ _ _ _ hC hF hk hs hP hD hS hl)
theorem rr_icmp_ge {a b : Int} {off : Int} (tgt : Nat) (hd : decode M.2.1 pc = .ok (.if_icmp .ge off, 3)) (ht : (pc : Int) + off = (tgt : Int)) (ha : -2147483648 ≤ a ∧ a < 2147483648) (hb : -2147483648 ≤ b ∧ b < 2147483648)
    (kt : b ≤ a → RR E M d kc ks tgt lv st ws post) (kf : ¬ (b ≤ a) → RR E M d kc ks (pc + 3) lv st ws post) : RR E M d kc ks pc lv (.int (zz b) :: .int (zz a) :: st) ws post := by
  intro p l e R s m args below meth c A mc ms Q cells slots H locs ls hC hF hk hs hP hD hS hl
  exact lv_icmp_ge hC.1 hC.2.1 hd ht (fun h => kt ((zz_le hb ha).mp h) _ _ _ _ _ _ _ _ _ _ _ _ _ _ _ _ _ _ _ hC hF hk hs hP hD hS hl) (fun h => kf (fun z => h ((zz_le hb ha).mpr z)) _ _ _ _ _ _ _ _ _ _ _ _ _ _ _ _ _ _ _ hC hF hk hs hP hD hS hl)
theorem rr_icmp_gt {a b : Int} {off : Int} (tgt : Nat) (hd : decode M.2.1 pc = .ok (.if_icmp .gt off, 3)) (ht : (pc : Int) + off = (tgt : Int)) (ha : -2147483648 ≤ a ∧ a < 2147483648) (hb : -2147483648 ≤ b ∧ b < 2147483648)
    (kt : b < a → RR E M d kc ks tgt lv st ws post) (kf : ¬ (b < a) → RR E M d kc ks (pc + 3) lv st ws post) : RR E M d kc ks pc lv (.int (zz b) :: .int (zz a) :: st) ws post := by
  intro p l e R s m args below meth c A mc ms Q cells slots H locs ls hC hF hk hs hP hD hS hl
  exact lv_icmp_gt hC.1 hC.2.1 hd ht (fun h => kt ((zz_lt hb ha).mp h) _ _ _ _ _ _ _ _ _ _ _ _ _ _ _ _ _ _ _ hC hF hk hs hP hD hS hl) (fun h => kf (fun z => h ((zz_lt hb ha).mpr z)) _ _ _ _ _ _ _ _ _ _ _ _ _ _ _ _ _ _ _ hC hF hk hs hP hD hS hl)
theorem rr_icmp_le {a b : Int} {off : Int} (tgt : Nat) (hd : decode M.2.1 pc = .ok (.if_icmp .le off, 3)) (ht : (pc : Int) + off = (tgt : Int)) (ha : -2147483648 ≤ a ∧ a < 2147483648) (hb : -2147483648 ≤ b ∧ b < 2147483648)
    (kt : a ≤ b → RR E M d kc ks tgt lv st ws post) (kf : ¬ (a ≤ b) → RR E M d kc ks (pc + 3) lv st ws post) : RR E M d kc ks pc lv (.int (zz b) :: .int (zz a) :: st) ws post := by
  intro p l e R s m args below meth c A mc ms Q cells slots H locs ls hC hF hk hs hP hD hS hl
  exact lv_icmp_le hC.1 hC.2.1 hd ht (fun h => kt ((zz_le ha hb).mp h) _ _ _ _ _ _ _ _ _ _ _ _ _ _ _ _ _ _ _ hC hF hk hs hP hD hS hl) (fun h => kf (fun z => h ((zz_le ha hb).mpr z)) _ _ _ _ _ _ _ _ _ _ _ _ _ _ _ _ _ _ _ hC hF hk hs hP hD hS hl)
theorem rr_if_eq {a : Int} {off : Int} (tgt : Nat) (hd : decode M.2.1 pc = .ok (.ifCond .eq off, 3)) (ht : (pc : Int) + off = (tgt : Int)) (ha : -2147483648 ≤ a ∧ a < 2147483648)
    (kt : a = 0 → RR E M d kc ks tgt lv st ws post) (kf : ¬ (a = 0) → RR E M d kc ks (pc + 3) lv st ws post) : RR E M d kc ks pc lv (.int (zz a) :: st) ws post := by
  intro p l e R s m args below meth c A mc ms Q cells slots H locs ls hC hF hk hs hP hD hS hl
  exact lv_if_eq hC.1 hC.2.1 hd ht (fun h => kt ((zz_eq (b := 0) ha (show -2147483648 ≤ (0 : Int) ∧ (0 : Int) < 2147483648 by omega)).mp h) _ _ _ _ _ _ _ _ _ _ _ _ _ _ _ _ _ _ _ hC hF hk hs hP hD hS hl) (fun h => kf (fun z => h ((zz_eq (b := 0) ha (show -2147483648 ≤ (0 : Int) ∧ (0 : Int) < 2147483648 by omega)).mpr z)) _ _ _ _ _ _ _ _ _ _ _ _ _ _ _ _ _ _ _ hC hF hk hs hP hD hS hl)
theorem rr_if_ne {a : Int} {off : Int} (tgt : Nat) (hd : decode M.2.1 pc = .ok (.ifCond .ne off, 3)) (ht : (pc : Int) + off = (tgt : Int)) (ha : -2147483648 ≤ a ∧ a < 2147483648)
    (kt : ¬ a = 0 → RR E M d kc ks tgt lv st ws post) (kf : a = 0 → RR E M d kc ks (pc + 3) lv st ws post) : RR E M d kc ks pc lv (.int (zz a) :: st) ws post := by
  intro p l e R s m args below meth c A mc ms Q cells slots H locs ls hC hF hk hs hP hD hS hl
  exact lv_if_ne hC.1 hC.2.1 hd ht (fun h => kt ((not_congr (zz_eq (b := 0) ha (show -2147483648 ≤ (0 : Int) ∧ (0 : Int) < 2147483648 by omega))).mp h) _ _ _ _ _ _ _ _ _ _ _ _ _ _ _ _ _ _ _ hC hF hk hs hP hD hS hl) (fun h => kf ((zz_eq (b := 0) ha (show -2147483648 ≤ (0 : Int) ∧ (0 : Int) < 2147483648 by omega)).mp h) _ _ _ _ _ _ _ _ _ _ _ _ _ _ _ _ _ _ _ hC hF hk hs hP hD hS hl)
theorem rr_if_lt {a : Int} {off : Int} (tgt : Nat) (hd : decode M.2.1 pc = .ok (.ifCond .lt off, 3)) (ht : (pc : Int) + off = (tgt : Int)) (ha : -2147483648 ≤ a ∧ a < 2147483648)
    (kt : a < 0 → RR E M d kc ks tgt lv st ws post) (kf : ¬ (a < 0) → RR E M d kc ks (pc + 3) lv st ws post) : RR E M d kc ks pc lv (.int (zz a) :: st) ws post := by
  intro p l e R s m args below meth c A mc ms Q cells slots H locs ls hC hF hk hs hP hD hS hl
  exact lv_if_lt hC.1 hC.2.1 hd ht (fun h => kt ((zz_lt (b := 0) ha (show -2147483648 ≤ (0 : Int) ∧ (0 : Int) < 2147483648 by omega)).mp h) _ _ _ _ _ _ _ _ _ _ _ _ _ _ _ _ _ _ _ hC hF hk hs hP hD hS hl) (fun h => kf (fun z => h ((zz_lt (b := 0) ha (show -2147483648 ≤ (0 : Int) ∧ (0 : Int) < 2147483648 by omega)).mpr z)) _ _ _ _ _ _ _ _ _ _ _ _ _ _ _ _ _ _ _ hC hF hk hs hP hD hS hl)
theorem rr_if_ge {a : Int} {off : Int} (tgt : Nat) (hd : decode M.2.1 pc = .ok (.ifCond .ge off, 3)) (ht : (pc : Int) + off = (tgt : Int)) (ha : -2147483648 ≤ a ∧ a < 2147483648)
    (kt : 0 ≤ a → RR E M d kc ks tgt lv st ws post) (kf : ¬ (0 ≤ a) → RR E M d kc ks (pc + 3) lv st ws post) : RR E M d kc ks pc lv (.int (zz a) :: st) ws post := by
  intro p l e R s m args below meth c A mc ms Q cells slots H locs ls hC hF hk hs hP hD hS hl
  exact lv_if_ge hC.1 hC.2.1 hd ht (fun h => kt ((zz_le (a := 0) (show -2147483648 ≤ (0 : Int) ∧ (0 : Int) < 2147483648 by omega) ha).mp h) _ _ _ _ _ _ _ _ _ _ _ _ _ _ _ _ _ _ _ hC hF hk hs hP hD hS hl) (fun h => kf (fun z => h ((zz_le (a := 0) (show -2147483648 ≤ (0 : Int) ∧ (0 : Int) < 2147483648 by omega) ha).mpr z)) _ _ _ _ _ _ _ _ _ _ _ _ _ _ _ _ _ _ _ hC hF hk hs hP hD hS hl)
theorem rr_if_gt {a : Int} {off : Int} (tgt : Nat) (hd : decode M.2.1 pc = .ok (.ifCond .gt off, 3)) (ht : (pc : Int) + off = (tgt : Int)) (ha : -2147483648 ≤ a ∧ a < 2147483648)
    (kt : 0 < a → RR E M d kc ks tgt lv st ws post) (kf : ¬ (0 < a) → RR E M d kc ks (pc + 3) lv st ws post) : RR E M d kc ks pc lv (.int (zz a) :: st) ws post := by
  intro p l e R s m args below meth c A mc ms Q cells slots H locs ls hC hF hk hs hP hD hS hl
  exact lv_if_gt hC.1 hC.2.1 hd ht (fun h => kt ((zz_lt (a := 0) (show -2147483648 ≤ (0 : Int) ∧ (0 : Int) < 2147483648 by omega) ha).mp h) _ _ _ _ _ _ _ _ _ _ _ _ _ _ _ _ _ _ _ hC hF hk hs hP hD hS hl) (fun h => kf (fun z => h ((zz_lt (a := 0) (show -2147483648 ≤ (0 : Int) ∧ (0 : Int) < 2147483648 by omega) ha).mpr z)) _ _ _ _ _ _ _ _ _ _ _ _ _ _ _ _ _ _ _ hC hF hk hs hP hD hS hl)
theorem rr_if_le {a : Int} {off : Int} (tgt : Nat) (hd : decode M.2.1 pc = .ok (.ifCond .le off, 3)) (ht : (pc : Int) + off = (tgt : Int)) (ha : -2147483648 ≤ a ∧ a < 2147483648)
    (kt : a ≤ 0 → RR E M d kc ks tgt lv st ws post) (kf : ¬ (a ≤ 0) → RR E M d kc ks (pc + 3) lv st ws post) : RR E M d kc ks pc lv (.int (zz a) :: st) ws post := by
  intro p l e R s m args below meth c A mc ms Q cells slots H locs ls hC hF hk hs hP hD hS hl
  exact lv_if_le hC.1 hC.2.1 hd ht (fun h => kt ((zz_le (b := 0) ha (show -2147483648 ≤ (0 : Int) ∧ (0 : Int) < 2147483648 by omega)).mp h) _ _ _ _ _ _ _ _ _ _ _ _ _ _ _ _ _ _ _ hC hF hk hs hP hD hS hl) (fun h => kf (fun z => h ((zz_le (b := 0) ha (show -2147483648 ≤ (0 : Int) ∧ (0 : Int) < 2147483648 by omega)).mpr z)) _ _ _ _ _ _ _ _ _ _ _ _ _ _ _ _ _ _ _ hC hF hk hs hP hD hS hl)
theorem bI_ne {b : Bool} : ¬ bI b = 0 ↔ b = true := by cases b <;> simp [bI]
theorem bI_eq {b : Bool} : bI b = 0 ↔ b = false := by cases b <;> simp [bI]
theorem bI_rg (b : Bool) : -2147483648 ≤ bI b ∧ bI b < 2147483648 := by cases b <;> simp [bI]
/-- a test of a boolean answer -/
theorem rr_if_eqB {b : Bool} {off : Int} (tgt : Nat) (hd : decode M.2.1 pc = .ok (.ifCond .eq off, 3)) (ht : (pc : Int) + off = (tgt : Int))
    (kt : b = false → RR E M d kc ks tgt lv st ws post) (kf : b = true → RR E M d kc ks (pc + 3) lv st ws post) : RR E M d kc ks pc lv (.int (zz (bI b)) :: st) ws post :=
  rr_if_eq tgt hd ht (bI_rg b) (fun h => kt (bI_eq.mp h)) (fun h => kf (bI_ne.mp h))
theorem rr_if_neB {b : Bool} {off : Int} (tgt : Nat) (hd : decode M.2.1 pc = .ok (.ifCond .ne off, 3)) (ht : (pc : Int) + off = (tgt : Int))
    (kt : b = true → RR E M d kc ks tgt lv st ws post) (kf : b = false → RR E M d kc ks (pc + 3) lv st ws post) : RR E M d kc ks pc lv (.int (zz (bI b)) :: st) ws post :=
  rr_if_ne tgt hd ht (bI_rg b) (fun h => kt (bI_ne.mp h)) (fun h => kf (bI_eq.mp h))
/-- switches -/
theorem rr_tswIn {dflt lo hi : Int} {offs : Array Int} {len : Nat} {a off : Int} (tgt : Nat) (hd : decode M.2.1 pc = .ok (.tableswitch dflt lo hi offs, len)) (ha : -2147483648 ≤ a ∧ a < 2147483648) (h1 : ¬ a < lo) (h2 : ¬ hi < a) (ho : offs[(a - lo).toNat]? = some off) (ht : (pc : Int) + off = (tgt : Int)) (K : RR E M d kc ks tgt lv st ws post) : RR E M d kc ks pc lv (.int (zz a) :: st) ws post :=
  rr_go (fun _ _ _ _ _ _ _ _ _ _ _ _ _ _ _ _ hx hb _ k => lv_tableIn hx hb hd (by rw [zz_toInt ha]; exact h1) (by rw [zz_toInt ha]; exact h2) (by rw [zz_toInt ha]; exact ho) ht k) K
theorem rr_tswOut {dflt lo hi : Int} {offs : Array Int} {len : Nat} {a : Int} (tgt : Nat) (hd : decode M.2.1 pc = .ok (.tableswitch dflt lo hi offs, len)) (ha : -2147483648 ≤ a ∧ a < 2147483648) (h : a < lo ∨ hi < a) (ht : (pc : Int) + dflt = (tgt : Int)) (K : RR E M d kc ks tgt lv st ws post) : RR E M d kc ks pc lv (.int (zz a) :: st) ws post :=
  rr_go (fun _ _ _ _ _ _ _ _ _ _ _ _ _ _ _ _ hx hb _ k => lv_tableOut hx hb hd (by rw [zz_toInt ha]; exact h) ht k) K
theorem rr_lsw {dflt : Int} {ps : Array (Int × Int)} {len : Nat} {a off : Int} (tgt : Nat) (hd : decode M.2.1 pc = .ok (.lookupswitch dflt ps, len)) (hp : (ps.toList.zip (ps.toList.drop 1)).all (fun (a, next) => a.1 < next.1) = true) (ha : -2147483648 ≤ a ∧ a < 2147483648) (ho : Op.lookupswitch.offset ps.toList dflt a = off) (ht : (pc : Int) + off = (tgt : Int)) (K : RR E M d kc ks tgt lv st ws post) : RR E M d kc ks pc lv (.int (zz a) :: st) ws post :=
  rr_go (fun _ _ _ _ _ _ _ _ _ _ _ _ _ _ _ _ hx hb _ k => lv_lookup hx hb hd hp (by rw [zz_toInt ha]; exact ho) ht k) K
theorem rr_ldc2 {v : Int64} {idx : Nat} (hd : decode M.2.1 pc = .ok (.ldc2_w idx, 3)) (hw : Cond.constantLong M.1.cls idx v ∈ gW) (K : RR E M d kc ks (pc + 3) lv (.long v :: st) ws post) : RR E M d kc ks pc lv st ws post := by
  intro p l e R s m args below meth c A mc ms Q cells slots H locs ls hC hF hk hs hP hD hS hl
  exact lv_ldc2 hC.1 hC.2.1 hC.2.2.2.1 (hC.2.2.2.2.1 _ hw) hd (K _ _ _ _ _ _ _ _ _ _ _ _ _ _ _ _ _ _ _ hC hF hk hs hP hD hS hl)
/-- ends -/
theorem rr_ret (hd : decode M.2.1 pc = .ok (.return_, 1)) (hr : M.2.2.2 = none) (h : post none ws) : RR E M d kc ks pc lv [] ws post := by
  intro p l e R s m args below meth c A mc ms Q cells slots H locs ls hC hF hk hs hP hD hS hl
  exact hF.1 ws H locs pc ls cells slots h hr (by omega) (by omega) hP hD hS hd
theorem rr_iret {r : Int32} {ty : FieldType} (hd : decode M.2.1 pc = .ok (.ireturn, 1)) (hr : M.2.2.2 = some ty) (hn : narrow ty (.int r) = .int r) (h : post (some (.int r)) ws) : RR E M d kc ks pc lv [.int r] ws post := by
  intro p l e R s m args below meth c A mc ms Q cells slots H locs ls hC hF hk hs hP hD hS hl
  exact hF.2 r ty ws H locs pc ls cells slots h hr hn (by omega) (by omega) hP hD hS hd
/-- fields -/
theorem rr_get {idx ci k a : Nat} {ty : FieldType} {fin : Bool} {fs : List Value} {v : Value} (F : Fok M.1.cls idx ci k ty fin) (q : Nat) (he : ws[q]? = some (a, .inr (ci, fs))) (hv : fs[k]? = some v) (hd : decode M.2.1 pc = .ok (.getfield idx, 3)) (K : RR E M d kc ks (pc + 3) lv (v :: st) ws post) : RR E M d kc ks pc lv (.ref a :: st) ws post := by
  intro p l e R s m args below meth c A mc ms Q cells slots H locs ls hC hF hk hs hP hD hS hl
  obtain ⟨C, T, N, ty0, f1, f2, f3, f4, f5, f6, f7, f8, f9⟩ := F
  exact va_get (D := eD E) (tys := eTys E) (ci := ci) (v := v) (C := C) (T := T) (N := N) hC.1 hC.2.1 hC.2.2.2.2.1 f3 hC.2.2.2.1 hC.2.2.2.2.2.1.1.1 hP q he f1 k f2 (hC.2.2.2.2.1 _ f6) (fun _ h9 => h9) hv hd (K _ _ _ _ _ _ _ _ _ _ _ _ _ _ _ _ _ _ _ hC hF hk hs hP hD hS hl)
theorem rr_put {idx ci k a : Nat} {ty : FieldType} {fs : List Value} {v : Value} (F : Fok M.1.cls idx ci k ty false) (q : Nat) (he : ws[q]? = some (a, .inr (ci, fs))) (hn : narrow ty v = v) (hfit : fits ty v = true) (hl : k < fs.length) (hw : ws.set q (a, .inr (ci, fs.set k v)) = ws2) (hd : decode M.2.1 pc = .ok (.putfield idx, 3)) (K : RR E M d kc ks (pc + 3) lv st ws2 post) : RR E M d kc ks pc lv (v :: .ref a :: st) ws post := by
  intro p l e R s m args below meth c A mc ms Q cells slots H locs ls hC hF hk hs hP hD hS hlv
  subst hw
  obtain ⟨C, T, N, ty0, f1, f2, f3, f4, f5, f6, f7, f8, f9⟩ := F
  exact va_put (D := eD E) (tys := eTys E) (ci := ci) (v := v) (ty := ty) (C := C) (T := T) (N := N) hC.1 hC.2.1 hC.2.2.2.2.1 f3 ty0 f4 f5 hC.2.2.2.1 hC.2.2.2.2.2.1.1.1 hP hD hS q he f1 k f2 (hC.2.2.2.2.1 _ f6) (fun _ h9 => h9) f7 f8 hn hfit hl hd (fun H1 locs1 hP1 hD1 hS1 => K _ _ _ _ _ _ _ _ _ _ _ _ _ _ _ _ _ _ _ hC hF hk hs hP1 hD1 hS1 hlv)
theorem rr_putF {idx ci k a : Nat} {ty : FieldType} {fs : List Value} {v : Value} (F : Fok M.1.cls idx ci k ty true) (hi : M.1.name = "<init>") (hcl : ∀ r : vw_C, vwCl[ci]? = some r → r.1 = M.1.cls) (q : Nat) (he : ws[q]? = some (a, .inr (ci, fs))) (hn : narrow ty v = v) (hfit : fits ty v = true) (hl : k < fs.length) (hw : ws.set q (a, .inr (ci, fs.set k v)) = ws2) (hd : decode M.2.1 pc = .ok (.putfield idx, 3)) (K : RR E M d kc ks (pc + 3) lv st ws2 post) : RR E M d kc ks pc lv (v :: .ref a :: st) ws post := by
  intro p l e R s m args below meth c A mc ms Q cells slots H locs ls hC hF hk hs hP hD hS hlv
  subst hw
  obtain ⟨C, T, N, ty0, f1, f2, f3, f4, f5, f6, f7, f8, f9⟩ := F
  have e9 : (T k).1 = M.1.cls := f9.trans (hcl _ f1)
  exact va_putF (D := eD E) (tys := eTys E) (ci := ci) (v := v) (ty := ty) (C := C) (T := T) (N := N) hC.1 hC.2.1 hC.2.2.2.2.1 f3 ty0 f4 f5 hC.2.2.2.1 hC.2.2.2.2.2.1.1.1 hP hD hS q he f1 k f2 (hC.2.2.2.2.1 _ f6) (fun _ h9 => h9) f7 (hC.2.2.2.2.2.2.2.2.trans hi) e9 f8 hn hfit hl hd (fun H1 locs1 hP1 hD1 hS1 => K _ _ _ _ _ _ _ _ _ _ _ _ _ _ _ _ _ _ _ hC hF hk hs hP1 hD1 hS1 hlv)
/-- arrays -/
theorem rr_iald {a n : Nat} {f : Nat → Int} {i : Int} (q k : Nat) (ha : ws[q]? = some (a, aI E n f)) (hi : i = (k : Int)) (hk0 : k < n) (hn : n < 2147483648) (hd : decode M.2.1 pc = .ok (.iaload, 1)) (K : RR E M d kc ks (pc + 1) lv (.int (zz (f k)) :: st) ws post) : RR E M d kc ks pc lv (.int (zz i) :: .ref a :: st) ws post := by
  intro p l e R s m args below meth c A mc ms Q cells slots H locs ls hC hF hk hs hP hD hS hl
  subst hi
  refine va_iald (D := eD E) (tys := eTys E) hC.1 hC.2.1 hC.2.2.2.2.2.1.1.1 hP q 0 ha rfl (zz_in hk0 hn) hd ?_
  rw [zz_clamp hk0 hn]
  exact K _ _ _ _ _ _ _ _ _ _ _ _ _ _ _ _ _ _ _ hC hF hk hs hP hD hS hl
theorem rr_cald {a n : Nat} {f : Nat → Int} {i : Int} (q k : Nat) (ha : ws[q]? = some (a, aC E n f)) (hi : i = (k : Int)) (hk0 : k < n) (hn : n < 2147483648) (hd : decode M.2.1 pc = .ok (.caload, 1)) (K : RR E M d kc ks (pc + 1) lv (.int (zz (f k)) :: st) ws post) : RR E M d kc ks pc lv (.int (zz i) :: .ref a :: st) ws post := by
  intro p l e R s m args below meth c A mc ms Q cells slots H locs ls hC hF hk hs hP hD hS hl
  subst hi
  refine va_cald (D := eD E) (tys := eTys E) hC.1 hC.2.1 hC.2.2.2.2.2.1.1.1 hP q 1 ha rfl (zz_in hk0 hn) hd ?_
  rw [zz_clamp hk0 hn]
  exact K _ _ _ _ _ _ _ _ _ _ _ _ _ _ _ _ _ _ _ hC hF hk hs hP hD hS hl
theorem rr_iast {a n : Nat} {f : Nat → Int} {i x : Int} (q k : Nat) (ha : ws[q]? = some (a, aI E n f)) (hi : i = (k : Int)) (hk0 : k < n) (hn : n < 2147483648) (hw : ws.set q (a, aI E n (updI f k x)) = ws2) (hd : decode M.2.1 pc = .ok (.iastore, 1)) (K : RR E M d kc ks (pc + 1) lv st ws2 post) : RR E M d kc ks pc lv (.int (zz x) :: .int (zz i) :: .ref a :: st) ws post := by
  intro p l e R s m args below meth c A mc ms Q cells slots H locs ls hC hF hk hs hP hD hS hl
  subst hi; subst hw
  refine va_iast (D := eD E) (tys := eTys E) hC.1 hC.2.1 hC.2.2.2.2.2.1.1.1 hP hD hS q 0 ha rfl (zz_in hk0 hn) hd (fun H1 locs1 hP1 hD1 hS1 => ?_)
  rw [zz_clamp hk0 hn, upd_zz] at hP1 hD1
  exact K _ _ _ _ _ _ _ _ _ _ _ _ _ _ _ _ _ _ _ hC hF hk hs hP1 hD1 hS1 hl
theorem nar_c {x : Int} (h : 0 ≤ x ∧ x < 65536) : vp_nar .char (zz x) = zz x := by
  obtain ⟨n, rfl⟩ : ∃ n : Nat, x = (n : Int) := ⟨x.toNat, by omega⟩
  rw [zz_nat]
  have h2 := (pk_charN (q := n) (by omega)).1
  unfold vp_nar
  rw [h2]
theorem rr_cast {a n : Nat} {f : Nat → Int} {i x : Int} (q k : Nat) (ha : ws[q]? = some (a, aC E n f)) (hi : i = (k : Int)) (hk0 : k < n) (hn : n < 2147483648) (hx : 0 ≤ x ∧ x < 65536) (hw : ws.set q (a, aC E n (updI f k x)) = ws2) (hd : decode M.2.1 pc = .ok (.castore, 1)) (K : RR E M d kc ks (pc + 1) lv st ws2 post) : RR E M d kc ks pc lv (.int (zz x) :: .int (zz i) :: .ref a :: st) ws post := by
  intro p l e R s m args below meth c A mc ms Q cells slots H locs ls hC hF hk hs hP hD hS hl
  subst hi; subst hw
  refine va_cast (D := eD E) (tys := eTys E) hC.1 hC.2.1 hC.2.2.2.2.2.1.1.1 hP hD hS q 1 ha rfl (zz_in hk0 hn) hd (fun H1 locs1 hP1 hD1 hS1 => ?_)
  rw [zz_clamp hk0 hn, nar_c hx, upd_zz] at hP1 hD1
  exact K _ _ _ _ _ _ _ _ _ _ _ _ _ _ _ _ _ _ _ hC hF hk hs hP1 hD1 hS1 hl
theorem rr_alenI {a n : Nat} {f : Nat → Int} (q : Nat) (ha : ws[q]? = some (a, aI E n f)) (hd : decode M.2.1 pc = .ok (.arraylength, 1)) (K : RR E M d kc ks (pc + 1) lv (.int (zz (n : Int)) :: st) ws post) : RR E M d kc ks pc lv (.ref a :: st) ws post := by
  intro p l e R s m args below meth c A mc ms Q cells slots H locs ls hC hF hk hs hP hD hS hl
  exact va_alen (D := eD E) (tys := eTys E) hC.1 hC.2.1 hC.2.2.2.2.2.1.1.1 hP q 0 ha rfl rfl hd (K _ _ _ _ _ _ _ _ _ _ _ _ _ _ _ _ _ _ _ hC hF hk hs hP hD hS hl)
theorem rr_alenH {a n : Nat} {f : Nat → Option Nat} (q : Nat) (ha : ws[q]? = some (a, aH E n f)) (hd : decode M.2.1 pc = .ok (.arraylength, 1)) (K : RR E M d kc ks (pc + 1) lv (.int (zz (n : Int)) :: st) ws post) : RR E M d kc ks pc lv (.ref a :: st) ws post := by
  intro p l e R s m args below meth c A mc ms Q cells slots H locs ls hC hF hk hs hP hD hS hl
  exact va_alen (D := eD E) (tys := eTys E) hC.1 hC.2.1 hC.2.2.2.2.2.1.1.1 hP q 2 ha rfl rfl hd (K _ _ _ _ _ _ _ _ _ _ _ _ _ _ _ _ _ _ _ hC hF hk hs hP hD hS hl)
theorem rr_aald {a n b : Nat} {f : Nat → Option Nat} {i : Int} (q k : Nat) (ha : ws[q]? = some (a, aH E n f)) (hi : i = (k : Int)) (hk0 : k < n) (hn : n < 2147483648) (hf : f k = some b) (hd : decode M.2.1 pc = .ok (.aaload, 1)) (K : RR E M d kc ks (pc + 1) lv (.ref b :: st) ws post) : RR E M d kc ks pc lv (.int (zz i) :: .ref a :: st) ws post := by
  intro p l e R s m args below meth c A mc ms Q cells slots H locs ls hC hF hk hs hP hD hS hl
  subst hi
  refine va_aldq (D := eD E) (tys := eTys E) hC.1 hC.2.1 hC.2.2.2.2.2.1.1.1 hP q 2 ha rfl (zz_in hk0 hn) hd ?_
  rw [zz_clamp hk0 hn, hf]
  exact K _ _ _ _ _ _ _ _ _ _ _ _ _ _ _ _ _ _ _ hC hF hk hs hP hD hS hl
theorem rr_aast {a n b : Nat} {f : Nat → Option Nat} {fs : List Value} {i : Int} (q k qv : Nat) (ha : ws[q]? = some (a, aH E n f)) (hv : ws[qv]? = some (b, .inr (0, fs))) (hi : i = (k : Int)) (hk0 : k < n) (hn : n < 2147483648) (hw : ws.set q (a, aH E n (va_up f k (some b))) = ws2) (hd : decode M.2.1 pc = .ok (.aastore, 1)) (K : RR E M d kc ks (pc + 1) lv st ws2 post) : RR E M d kc ks pc lv (.ref b :: .int (zz i) :: .ref a :: st) ws post := by
  intro p l e R s m args below meth c A mc ms Q cells slots H locs ls hC hF hk hs hP hD hS hl
  subst hi; subst hw
  refine va_astq (D := eD E) (tys := eTys E) (r := (RX0, TX0, 7)) hC.1 hC.2.1 hC.2.2.2.2.2.1.1.1 hP hD hS q 2 qv 0 ha rfl hv rfl (zz_in hk0 hn) hd (fun H1 locs1 hP1 hD1 hS1 => ?_)
  rw [zz_clamp hk0 hn] at hP1 hD1
  exact K _ _ _ _ _ _ _ _ _ _ _ _ _ _ _ _ _ _ _ hC hF hk hs hP1 hD1 hS1 hl
/-- the script -/
theorem rr_sld {i : Int} (k : Nat) (hi : i = (k : Int)) (hk0 : k < eL E) (hn : eL E < 2147483648) (hd : decode M.2.1 pc = .ok (.iaload, 1)) (K : RR E M d kc ks (pc + 1) lv (.int (eX E k) :: st) ws post) : RR E M d kc ks pc lv (.int (zz i) :: .ref (eB E) :: st) ws post := by
  intro p l e R s m args below meth c A mc ms Q cells slots H locs ls hC hF hk hs hP hD hS hl
  subst hi
  obtain ⟨a1, a2, a3⟩ := hC.2.2.2.2.2.1.2.2.2.2.1
  refine va_sld hC.1 hC.2.1 a1 a2 a3 hS (zz_in hk0 hn) hd ?_
  rw [zz_clamp hk0 hn]
  exact K _ _ _ _ _ _ _ _ _ _ _ _ _ _ _ _ _ _ _ hC hF hk hs hP hD hS hl
theorem rr_slen (hd : decode M.2.1 pc = .ok (.arraylength, 1)) (K : RR E M d kc ks (pc + 1) lv (.int (zz (eL E : Int)) :: st) ws post) : RR E M d kc ks pc lv (.ref (eB E) :: st) ws post := by
  intro p l e R s m args below meth c A mc ms Q cells slots H locs ls hC hF hk hs hP hD hS hl
  obtain ⟨a1, a2, a3⟩ := hC.2.2.2.2.2.1.2.2.2.2.1
  exact va_slen hC.1 hC.2.1 a1 a2 a3 hS hd (K _ _ _ _ _ _ _ _ _ _ _ _ _ _ _ _ _ _ _ hC hF hk hs hP hD hS hl)
/-- the two static rows -/
theorem rr_getE (hM : M.1.cls = RX0) (hd : decode M.2.1 pc = .ok (.getstatic 33, 3)) (K : RR E M d kc ks (pc + 3) lv (.ref (eE E) :: st) ws post) : RR E M d kc ks pc lv st ws post := by
  intro p l e R s m args below meth c A mc ms Q cells slots H locs ls hC hF hk hs hP hD hS hl
  have hl2 := hC.2.2.2.2.2.1.2.1.2 (RX0, 33, RX6, "EASTWARD", "[I", RX6) (by simp [nestF])
  exact va_getsN (own := RX0) (ref := RX6) (host := RX6) hC.1 hC.2.1 hC.2.2.2.2.2.1.2.2.1.1 hS (by rw [← hM]; exact hC.2.2.2.1) (va_Nw.use rfl hl2) (fun _ h9 => h9) hd (K _ _ _ _ _ _ _ _ _ _ _ _ _ _ _ _ _ _ _ hC hF hk hs hP hD hS hl)
theorem rr_getS (hM : M.1.cls = RX0) (hd : decode M.2.1 pc = .ok (.getstatic 41, 3)) (K : RR E M d kc ks (pc + 3) lv (.ref (eS E) :: st) ws post) : RR E M d kc ks pc lv st ws post := by
  intro p l e R s m args below meth c A mc ms Q cells slots H locs ls hC hF hk hs hP hD hS hl
  have hl2 := hC.2.2.2.2.2.1.2.1.2 (RX0, 41, RX6, "SOUTHWARD", "[I", RX6) (by simp [nestF])
  exact va_getsN (own := RX0) (ref := RX6) (host := RX6) hC.1 hC.2.1 hC.2.2.2.2.2.1.2.2.1.2.2.1 hS (by rw [← hM]; exact hC.2.2.2.1) (va_Nw.use rfl hl2) (fun _ h9 => h9) hd (K _ _ _ _ _ _ _ _ _ _ _ _ _ _ _ _ _ _ _ hC hF hk hs hP hD hS hl)
theorem rr_tldE {i : Int} {v : Value} (k : Nat) (hi : i = (k : Int)) (hk0 : k < 5) (hv : fE k = v) (hd : decode M.2.1 pc = .ok (.iaload, 1)) (K : RR E M d kc ks (pc + 1) lv (v :: st) ws post) : RR E M d kc ks pc lv (.int (zz i) :: .ref (eE E) :: st) ws post := by
  intro p l e R s m args below meth c A mc ms Q cells slots H locs ls hC hF hk hs hP hD hS hl
  subst hi
  exact va_ti hC.1 hC.2.1 hC.2.2.2.2.2.1.2.2.1.2.1 hS (zz_in hk0 (by omega)) (by rw [zz_clamp hk0 (by omega)]; exact hv) hd (K _ _ _ _ _ _ _ _ _ _ _ _ _ _ _ _ _ _ _ hC hF hk hs hP hD hS hl)
theorem rr_tldS {i : Int} {v : Value} (k : Nat) (hi : i = (k : Int)) (hk0 : k < 5) (hv : fS k = v) (hd : decode M.2.1 pc = .ok (.iaload, 1)) (K : RR E M d kc ks (pc + 1) lv (v :: st) ws post) : RR E M d kc ks pc lv (.int (zz i) :: .ref (eS E) :: st) ws post := by
  intro p l e R s m args below meth c A mc ms Q cells slots H locs ls hC hF hk hs hP hD hS hl
  subst hi
  exact va_ti hC.1 hC.2.1 hC.2.2.2.2.2.1.2.2.1.2.2.2 hS (zz_in hk0 (by omega)) (by rw [zz_clamp hk0 (by omega)]; exact hv) hd (K _ _ _ _ _ _ _ _ _ _ _ _ _ _ _ _ _ _ _ hC hF hk hs hP hD hS hl)
end RULES
