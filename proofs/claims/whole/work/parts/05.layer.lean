/-! ===== ints of the machine by integers ===== -/
def zz (z : Int) : Int32 := Int32.ofInt z
theorem zz_toInt {z : Int} (h : -2147483648 ≤ z ∧ z < 2147483648) : (zz z).toInt = z := by
  have e : z.bmod (2 ^ 32) = z := by rw [Int.bmod_eq_of_le (by omega) (by omega)]
  show (Int32.ofInt z).toInt = z
  rw [Int32.toInt_ofInt]
  exact e
theorem zz_of (x : Int32) : ∃ z : Int, (-2147483648 ≤ z ∧ z < 2147483648) ∧ x = zz z := by
  have h1 := Int32.le_toInt x
  have h2 := Int32.toInt_lt x
  exact ⟨x.toInt, ⟨by omega, by omega⟩, (Int32.ofInt_toInt x).symm⟩
theorem zz_add (a b : Int) : zz a + zz b = zz (a + b) := (Int32.ofInt_add a b).symm
theorem zz_sub (a b : Int) : zz a - zz b = zz (a - b) := (Int32.ofInt_sub a b).symm
theorem zz_mul (a b : Int) : zz a * zz b = zz (a * b) := (Int32.ofInt_mul a b).symm
theorem zz_neg (a : Int) : - zz a = zz (-a) := (Int32.ofInt_neg a).symm
theorem zz_lt {a b : Int} (ha : -2147483648 ≤ a ∧ a < 2147483648) (hb : -2147483648 ≤ b ∧ b < 2147483648) : zz a < zz b ↔ a < b := by
  rw [Int32.lt_iff_toInt_lt, zz_toInt ha, zz_toInt hb]
theorem zz_le {a b : Int} (ha : -2147483648 ≤ a ∧ a < 2147483648) (hb : -2147483648 ≤ b ∧ b < 2147483648) : zz a ≤ zz b ↔ a ≤ b := by
  rw [Int32.le_iff_toInt_le, zz_toInt ha, zz_toInt hb]
theorem zz_eq {a b : Int} (ha : -2147483648 ≤ a ∧ a < 2147483648) (hb : -2147483648 ≤ b ∧ b < 2147483648) : zz a = zz b ↔ a = b := by
  rw [← Int32.toInt_inj, zz_toInt ha, zz_toInt hb]
theorem zz_nat (n : Nat) : zz (n : Int) = nI n := rfl
theorem zz_clamp {k n : Nat} (h : k < n) (hn : n < 2147483648) : (zz (k : Int)).toNatClampNeg = k := by rw [zz_nat]; exact nI_clamp (by omega)
theorem zz_in {k n : Nat} (h : k < n) (hn : n < 2147483648) : vp_in (zz (k : Int)) n := by rw [zz_nat]; exact vp_in_nI h (by omega)
def updI (f : Nat → Int) (k : Nat) (x : Int) : Nat → Int := fun j => if j = k then x else f j
theorem upd_zz (f : Nat → Int) (k : Nat) (x : Int) : upd (fun j => zz (f j)) k (zz x) = fun j => zz (updI f k x j) := by
  funext j
  show (if j = k then zz x else zz (f j)) = zz (if j = k then x else f j)
  split <;> rfl
/-! ===== what is the same for the whole run ===== -/
def gW : List Cond := lw_tbl.filter goodWord
theorem gW_good : ∀ w ∈ gW, (w.onTables && w.keeps) = true ∨ ∃ ty, w = .arrayClass ty := fun w h => good_of_word (List.mem_filter.mp h).2
theorem gW_in {w : Cond} (i : Nat) (h : lw_tbl[i]? = some w) (hg : goodWord w = true) : w ∈ gW := List.mem_filter.mpr ⟨List.mem_of_getElem? h, hg⟩
theorem gW_ins {ws : List Cond} (ps : List Nat) (h : ws = ps.filterMap (fun i => lw_tbl[i]?)) (hg : ws.all goodWord = true) : ∀ w ∈ ws, w ∈ gW := by
  intro w hw
  have h1 := List.all_eq_true.mp hg w hw
  rw [h] at hw
  obtain ⟨i, -, hi⟩ := List.mem_filterMap.mp hw
  exact gW_in i hi h1
abbrev Mt : Type := MethodName × ByteArray × Nat × Option FieldType
def cdW (M : Mt) : List Cond := .code M.1 M.2.1 M.2.2.1 M.2.2.2 :: gW
def rmOf (d kc ks : Nat) : Room := { frames := d, cells := kc, slots := ks, locals := 40 * d }
/-- classes and slots; the array classes of ints, chars, Horses; the two static rows; the text's cells; the script -/
abbrev Ev : Type := va_G × ClassId × ClassId × ClassId × Nat × Nat × (Nat → Nat) × (Nat → Nat) × Nat × Nat × (Nat → Int32)
abbrev eD (E : Ev) : va_G := E.1
abbrev eI (E : Ev) : ClassId := E.2.1
abbrev eC (E : Ev) : ClassId := E.2.2.1
abbrev eH (E : Ev) : ClassId := E.2.2.2.1
abbrev eE (E : Ev) : Nat := E.2.2.2.2.1
abbrev eS (E : Ev) : Nat := E.2.2.2.2.2.1
abbrev eK (E : Ev) : Nat → Nat := E.2.2.2.2.2.2.1
abbrev eV (E : Ev) : Nat → Nat := E.2.2.2.2.2.2.2.1
abbrev eB (E : Ev) : Nat := E.2.2.2.2.2.2.2.2.1
abbrev eL (E : Ev) : Nat := E.2.2.2.2.2.2.2.2.2.1
abbrev eX (E : Ev) : Nat → Int32 := E.2.2.2.2.2.2.2.2.2.2
def eTys (E : Ev) : List (ClassId × FieldType) := [(eI E, .int), (eC E, .char), (eH E, .object "EbonyPegs$Horse")]
def fE : Nat → Value := fun j => match j with
  | 1 => .int 1
  | 3 => .int (-1)
  | _ => .int 0
def fS : Nat → Value := fun j => match j with
  | 0 => .int (-1)
  | 2 => .int 1
  | _ => .int 0
def nestM : List (String × Nat × MethodName × String) := [(RX6, 9, yX3_init, RX6), (RX6, 18, yX2_init, RX6), (RX2, 32, yX0_init, RX6), (RX6, 28, yX0_init, RX6), (RX4, 21, yX0_init, RX6), (RX6, 53, yX5_init, RX6), (RX1, 11, yX0_init, RX6), (RX2, 81, yX6_liftBy, RX6), (RX2, 92, yX6_within, RX6), (RX0, 37, yX6_within, RX6), (RX5, 25, yX6_liftBy, RX6)]
def nestF : List (String × Nat × String × String × String × String) := [(RX0, 33, RX6, "EASTWARD", "[I", RX6), (RX0, 41, RX6, "SOUTHWARD", "[I", RX6)]
def sTx : String := "p0,7,0;p0,3,1;p1,4,0;p2,6,1;p3,9,3;w1,1;w3,2;w5,3;w7,0;r5,3;r7,7;r2,6;b5,5,3,0;t1;"
def sBy : List Int32 := [112, 48, 44, 55, 44, 48, 59, 112, 48, 44, 51, 44, 49, 59, 112, 49, 44, 52, 44, 48, 59, 112, 50, 44, 54, 44, 49, 59, 112, 51, 44, 57, 44, 51, 59, 119, 49, 44, 49, 59, 119, 51, 44, 50, 59, 119, 53, 44, 51, 59, 119, 55, 44, 48, 59, 114, 53, 44, 51, 59, 114, 55, 44, 55, 59, 114, 50, 44, 54, 59, 98, 53, 44, 53, 44, 51, 44, 48, 59, 116, 49, 59]
def Am1 (E : Ev) (U : State) : Prop := va_K (eD E) vwCl (eTys E) U ∧ va_AO "EbonyPegs$Horse" U
def Am2 (U : State) : Prop := (∀ q ∈ nestM, va_Nw (.methodLinkNest q.1 q.2.1 q.2.2.1 q.2.2.2) U) ∧ (∀ q ∈ nestF, va_Nw (.fieldLinkNest q.1 q.2.1 q.2.2.1 q.2.2.2.1 q.2.2.2.2.1 q.2.2.2.2.2) U)
def Am3 (E : Ev) (A : Nat → Prop) (U : State) (H : Heap) : Prop := va_Z "EbonyPegs" "EASTWARD" "[I" (.ref (eE E)) A U H ∧ va_T .int (eE E) 5 fE A U H ∧ va_Z "EbonyPegs" "SOUTHWARD" "[I" (.ref (eS E)) A U H ∧ va_T .int (eS E) 5 fS A U H
def Am4 (E : Ev) (A : Nat → Prop) (U : State) (H : Heap) : Prop := vk_S 1 [82] [sBy] (eK E) (eV E) A U H ∧ va_Z "java/lang/String" "COMPACT_STRINGS" "Z" (.int 1) A U H ∧ va_Zq "jdk/internal/util/Preconditions" "SIOOBE_FORMATTER" "Ljava/util/function/BiFunction;" A U H
def Am5 (E : Ev) (A : Nat → Prop) (U : State) (H : Heap) : Prop := va_X (eB E) (eL E) (eX E) U H ∧ eB E < H.size ∧ ¬ A (eB E)
def Amb (E : Ev) (A : Nat → Prop) (U : State) (H : Heap) : Prop := Am1 E U ∧ Am2 U ∧ Am3 E A U H ∧ Am4 E A U H ∧ Am5 E A U H ∧ vk_R "EbonyPegs" 67 sTx (eK E 0) U
theorem Amb.warm {E : Ev} {A : Nat → Prop} {s U : State} {H : Heap} (hW : s.WarmedH U.vm) (h : Amb E A s H) : Amb E A U H := by
  obtain ⟨h1, h2, h3, h4, h5, h6⟩ := h
  have ha := hW.alike
  exact ⟨⟨h1.1.moved ha, h1.2.moved ha⟩, ⟨fun q hq => (h2.1 q hq).warmM hW, fun q hq => (h2.2 q hq).warmF hW⟩, ⟨h3.1.moved ha, h3.2.1.moved ha, h3.2.2.1.moved ha, h3.2.2.2.moved ha⟩, ⟨h4.1.moved ha, h4.2.1.moved ha, h4.2.2.moved ha⟩, ⟨h5.1.moved ha, h5.2⟩, h6.warm hW⟩
theorem Amb.same {E : Ev} {A : Nat → Prop} {s U : State} {H : Heap} (hv : U.vm = s.vm) (h : Amb E A s H) : Amb E A U H := by
  obtain ⟨h1, h2, h3, h4, h5, h6⟩ := h
  have ha : s.vm.Alike U.vm := by rw [hv]; exact Vm.Alike.refl _
  exact ⟨⟨h1.1.moved ha, h1.2.moved ha⟩, ⟨fun q hq => (h2.1 q hq).same rfl hv.symm, fun q hq => (h2.2 q hq).same rfl hv.symm⟩, ⟨h3.1.moved ha, h3.2.1.moved ha, h3.2.2.1.moved ha, h3.2.2.2.moved ha⟩, ⟨h4.1.moved ha, h4.2.1.moved ha, h4.2.2.moved ha⟩, ⟨h5.1.moved ha, h5.2⟩, h6.same hv⟩
theorem Amb.kept {E : Ev} {A : Nat → Prop} {U : State} {H H1 : Heap} (hz : H.size ≤ H1.size) (hq : ∀ a : Nat, a < H.size → ¬ A a → H1[a]? = H[a]?) (h : Amb E A U H) : Amb E A U H1 := by
  obtain ⟨h1, h2, h3, h4, h5, h6⟩ := h
  exact ⟨h1, h2, ⟨h3.1.kept hq, h3.2.1.kept hq, h3.2.2.1.kept hq, h3.2.2.2.kept hq⟩, ⟨h4.1.kept hq, h4.2.1.kept hq, h4.2.2.kept hq⟩, ⟨h5.1.kept (hq _ h5.2.1 h5.2.2), Nat.lt_of_lt_of_le h5.2.1 hz, h5.2.2⟩, h6⟩
theorem Amb.narrow {E : Ev} {A B : Nat → Prop} {U : State} {H : Heap} (hAB : ∀ q, B q → A q) (h : Amb E A U H) : Amb E B U H := by
  obtain ⟨h1, h2, h3, h4, h5, h6⟩ := h
  exact ⟨h1, h2, ⟨h3.1.narrow hAB, h3.2.1.narrow hAB, h3.2.2.1.narrow hAB, h3.2.2.2.narrow hAB⟩, ⟨h4.1.narrow hAB, h4.2.1.narrow hAB, h4.2.2.narrow hAB⟩, ⟨h5.1, h5.2.1, fun z => h5.2.2 (hAB _ z)⟩, h6⟩
/-! ===== the judgement: a method's body from a place on, with its locals, its stack, its world, comes to an end that meets 'post' ===== -/
def Cx (E : Ev) (M : Mt) (d mc ms : Nat) (p : Program) (R : Room) (s : State) (m : MethodId) (args : Array Value) (meth : Method) (c : Code) (A : Nat → Prop) : Prop :=
  p.tables.exec = Jvm.exec ∧ c.code = M.2.1 ∧ c.maxLocals = M.2.2.1 ∧ s.vm.findClass M.1.cls = some m.cls ∧ (∀ w ∈ gW, w.before args s = true) ∧ Amb E A s s.heap ∧ (∀ q, s.heap.size ≤ q → A q) ∧ (d ≤ R.frames ∧ 40 * d ≤ R.locals ∧ mc ≤ R.cells ∧ ms ≤ R.slots) ∧ meth.name = M.1.name
def Fn (E : Ev) (M : Mt) (mc ms : Nat) (p : Program) (l : Launch) (e : Env) (R : Room) (s : State) (m : MethodId) (args : Array Value) (below : List Frame) (meth : Method) (c : Code) (A : Nat → Prop) (Q : State → Prop) (post : Option Value → va_W → Prop) : Prop :=
  (∀ (w : va_W) (H : Heap) (locs : List Loc) (pc : Nat) (ls : Array Slot) (cells slots : Nat), post none w → M.2.2.2 = none → cells ≤ mc → slots ≤ ms → va_P (eD E) vwCl w H → va_D A w → va_S A s.heap H locs → decode M.2.1 pc = .ok (.return_, 1) → W p l e R s m args below meth c H locs cells slots Q (F0 m pc ls [])) ∧
  (∀ (r : Int32) (ty : FieldType) (w : va_W) (H : Heap) (locs : List Loc) (pc : Nat) (ls : Array Slot) (cells slots : Nat), post (some (.int r)) w → M.2.2.2 = some ty → narrow ty (.int r) = .int r → cells ≤ mc → slots ≤ ms → va_P (eD E) vwCl w H → va_D A w → va_S A s.heap H locs → decode M.2.1 pc = .ok (.ireturn, 1) → W p l e R s m args below meth c H locs cells slots Q (F0 m pc ls [.int r]))
def RR (E : Ev) (M : Mt) (d kc ks pc : Nat) (lv : List (Nat × Value)) (st : List Value) (ws : va_W) (post : Option Value → va_W → Prop) : Prop :=
  ∀ (p : Program) (l : Launch) (e : Env) (R : Room) (s : State) (m : MethodId) (args : Array Value) (below : List Frame) (meth : Method) (c : Code) (A : Nat → Prop) (mc ms : Nat) (Q : State → Prop) (cells slots : Nat) (H : Heap) (locs : List Loc) (ls : Array Slot),
    Cx E M d mc ms p R s m args meth c A → Fn E M mc ms p l e R s m args below meth c A Q post → cells + kc ≤ mc → slots + ks ≤ ms → va_P (eD E) vwCl ws H → va_D A ws → va_S A s.heap H locs → lv_has ls M.2.2.1 lv → W p l e R s m args below meth c H locs cells slots Q (F0 m pc ls st)
/-- a contract -/
def SP (E : Ev) (M : Mt) (d kc ks : Nat) (av : List Value) (ws : va_W) (post : Option Value → va_W → Prop) : Prop := RR E M d kc ks 0 (lv_args 0 av) [] ws post
/-- the answer and the world behind it, told -/
abbrev FP (v0 : Option Value) (w0 : va_W) : Option Value → va_W → Prop := fun v w => v = v0 ∧ w = w0
theorem RR.mono {E : Ev} {M : Mt} {d d2 kc ks pc : Nat} {lv : List (Nat × Value)} {st : List Value} {ws : va_W} {post : Option Value → va_W → Prop} (h : d ≤ d2) (K : RR E M d kc ks pc lv st ws post) : RR E M d2 kc ks pc lv st ws post := by
  intro p l e R s m args below meth c A mc ms Q cells slots H locs ls hC hF hk hs hP hD hS hl
  obtain ⟨h1, h2, h3, h4, h5, h6, h7, h8, h9⟩ := hC
  exact K _ _ _ _ _ _ _ _ _ _ _ _ _ _ _ _ _ _ _ ⟨h1, h2, h3, h4, h5, h6, h7, ⟨by omega, by omega, h8.2.2⟩, h9⟩ hF hk hs hP hD hS hl
theorem SP.mono {E : Ev} {M : Mt} {d d2 kc ks : Nat} {av : List Value} {ws : va_W} {post : Option Value → va_W → Prop} (h : d ≤ d2) (K : SP E M d kc ks av ws post) : SP E M d2 kc ks av ws post := RR.mono h K
theorem RR.post {E : Ev} {M : Mt} {d kc ks pc : Nat} {lv : List (Nat × Value)} {st : List Value} {ws : va_W} {post post2 : Option Value → va_W → Prop} (h : ∀ v w, post v w → post2 v w) (K : RR E M d kc ks pc lv st ws post) : RR E M d kc ks pc lv st ws post2 := by
  intro p l e R s m args below meth c A mc ms Q cells slots H locs ls hC hF hk hs hP hD hS hl
  exact K _ _ _ _ _ _ _ _ _ _ _ _ _ _ _ _ _ _ _ hC ⟨fun w H locs pc ls cells slots hp => hF.1 w H locs pc ls cells slots (h _ _ hp), fun r ty w H locs pc ls cells slots hp => hF.2 r ty w H locs pc ls cells slots (h _ _ hp)⟩ hk hs hP hD hS hl
theorem RR.eq {E : Ev} {M : Mt} {d kc ks pc pc2 : Nat} {lv lv2 : List (Nat × Value)} {st st2 : List Value} {ws ws2 : va_W} {post : Option Value → va_W → Prop} (h1 : pc = pc2) (h2 : lv = lv2) (h3 : st = st2) (h4 : ws = ws2) (K : RR E M d kc ks pc2 lv2 st2 ws2 post) : RR E M d kc ks pc lv st ws post := by
  subst h1; subst h2; subst h3; subst h4; exact K
/-- fewer locals, or in another order -/
theorem RR.lv {E : Ev} {M : Mt} {d kc ks pc : Nat} {lv lv2 : List (Nat × Value)} {st : List Value} {ws : va_W} {post : Option Value → va_W → Prop} (ps : List Nat) (h : lv_pick lv ps = lv2) (K : RR E M d kc ks pc lv2 st ws post) : RR E M d kc ks pc lv st ws post := by
  intro p l e R s m args below meth c A mc ms Q cells slots H locs ls hC hF hk hs hP hD hS hl
  exact K _ _ _ _ _ _ _ _ _ _ _ _ _ _ _ _ _ _ _ hC hF hk hs hP hD hS (lv_sub hl ps h)
/-- cells of the world in another order -/
theorem RR.ws {E : Ev} {M : Mt} {d kc ks pc : Nat} {lv : List (Nat × Value)} {st : List Value} {ws ws2 : va_W} {post : Option Value → va_W → Prop} (ps : List Nat) (hn : va_nd ps = true) (h : ps.map (fun i => ws[i]?) = ws2.map some) (K : RR E M d kc ks pc lv st ws2 post) : RR E M d kc ks pc lv st ws post := by
  intro p l e R s m args below meth c A mc ms Q cells slots H locs ls hC hF hk hs hP hD hS hl
  have h2 : ps.filterMap (fun i => ws[i]?) = ws2 := by
    have e : ps.filterMap (fun i => ws[i]?) = (ps.map (fun i => ws[i]?)).filterMap id := by rw [List.filterMap_map]; rfl
    rw [e, h, List.filterMap_map]
    simp
  exact K _ _ _ _ _ _ _ _ _ _ _ _ _ _ _ _ _ _ _ hC hF hk hs (hP.sub ps h2) (hD.sub ps hn h) hS hl
