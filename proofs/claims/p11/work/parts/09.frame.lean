set_option maxRecDepth 4000
/-! worlds as functions: (size, address -> (writable, entry)); entries: int rows, byte rows, rows of references (kind of class), objects -/
abbrev Ent : Type := (Nat × (Nat → Int)) ⊕ (Nat × (Nat → Int)) ⊕ (Nat × Nat × (Nat → Option Nat)) ⊕ (Nat × List Value)
abbrev WdE : Type := Bool × Ent
abbrev Wd : Type := Nat × (Nat → Option WdE)
abbrev iI (z : Int) : Value := .int (Int32.ofInt z)
abbrev jJ (z : Int) : Value := .long (Int64.ofInt z)
abbrev eI (n : Nat) (f : Nat → Int) : Ent := .inl (n, f)
abbrev eB (n : Nat) (f : Nat → Int) : Ent := .inr (.inl (n, f))
abbrev eR (k n : Nat) (f : Nat → Option Nat) : Ent := .inr (.inr (.inl (k, n, f)))
abbrev eO (ci : Nat) (fs : List Value) : Ent := .inr (.inr (.inr (ci, fs)))
def wset (w : Wd) (a : Nat) (e : WdE) : Wd := (w.1, fun b => if b = a then some e else w.2 b)
def wpush (w : Wd) (e : WdE) : Wd := (w.1 + 1, fun b => if b = w.1 then some e else w.2 b)
def iup (f : Nat → Int) (k : Nat) (x : Int) : Nat → Int := fun j => if j = k then x else f j
def rup (f : Nat → Option Nat) (k : Nat) (x : Option Nat) : Nat → Option Nat := fun j => if j = k then x else f j
/-- field layout numbers of the classes; class numbers of the rows; the base: cells from it on may be written -/
abbrev GE : Type := va_G × (Nat → ClassId) × Nat
def conc (E : GE) : Ent → va_E
  | .inl (n, f) => .inl (E.2.1 0, n, .inl (fun j => Int32.ofInt (f j)))
  | .inr (.inl (n, f)) => .inl (E.2.1 1, n, .inl (fun j => Int32.ofInt (f j)))
  | .inr (.inr (.inl (k, n, f))) => .inl (E.2.1 k, n, .inr (.inr (.inr (.inr f))))
  | .inr (.inr (.inr (ci, fs))) => .inr (ci, fs)
def wOk (E : GE) (w : Wd) (H : Heap) : Prop := H.size = w.1 ∧ ∀ a b e, w.2 a = some (b, e) → va_at E.1 clz (a, conc E e) H ∧ (b = true → E.2.2 ≤ a)
theorem wOk.lt {E : GE} {w : Wd} {H : Heap} (h : wOk E w H) {a : Nat} {x : WdE} (ha : w.2 a = some x) : a < w.1 := by
  obtain ⟨b, e⟩ := x
  rw [← h.1]
  exact (h.2 a b e ha).1.lt
theorem wOk.set {E : GE} {w : Wd} {H H1 : Heap} (h : wOk E w H) {a : Nat} {e : Ent} (he : va_at E.1 clz (a, conc E e) H1) (hb : E.2.2 ≤ a) (hz : H1.size = H.size) (oq : ∀ q : Nat, q ≠ a → H1[q]? = H[q]?) : wOk E (wset w a (true, e)) H1 := by
  refine ⟨hz.trans h.1, fun q b x hx => ?_⟩
  unfold wset at hx
  by_cases hq : q = a
  · subst hq
    simp only [if_pos] at hx
    cases hx
    exact ⟨he, fun _ => hb⟩
  · simp only [if_neg hq] at hx
    obtain ⟨h1, h2⟩ := h.2 q b x hx
    exact ⟨h1.kept (oq q hq), h2⟩
theorem wOk.push {E : GE} {w : Wd} {H H1 : Heap} (h : wOk E w H) {e : Ent} (he : va_at E.1 clz (w.1, conc E e) H1) (hb : E.2.2 ≤ w.1) (hz : H1.size = H.size + 1) (oq : ∀ q : Nat, q < H.size → H1[q]? = H[q]?) : wOk E (wpush w (true, e)) H1 := by
  refine ⟨by rw [hz, h.1]; rfl, fun q b x hx => ?_⟩
  unfold wpush at hx
  by_cases hq : q = w.1
  · subst hq
    simp only [if_pos] at hx
    cases hx
    exact ⟨he, fun _ => hb⟩
  · simp only [if_neg hq] at hx
    obtain ⟨h1, h2⟩ := h.2 q b x hx
    exact ⟨h1.kept (oq q (by have := h1.lt; exact this)), h2⟩
/-! the context of a walk -/
abbrev XT : Type := Program × Launch × Env × Room × State × MethodId × Array Value × List Frame × Method × Code × (State → Prop)
abbrev xl (X : XT) : Launch := X.2.1
abbrev xR (X : XT) : Room := X.2.2.2.1
abbrev xs (X : XT) : State := X.2.2.2.2.1
abbrev xm (X : XT) : MethodId := X.2.2.2.2.2.1
abbrev xargs (X : XT) : Array Value := X.2.2.2.2.2.2.1
abbrev xbelow (X : XT) : List Frame := X.2.2.2.2.2.2.2.1
abbrev xmeth (X : XT) : Method := X.2.2.2.2.2.2.2.2.1
abbrev xc (X : XT) : Code := X.2.2.2.2.2.2.2.2.2.1
abbrev xQ (X : XT) : State → Prop := X.2.2.2.2.2.2.2.2.2.2
abbrev xW (X : XT) (H : Heap) (locs : List Loc) (k n : Nat) (g : JFrame) : Prop := W X.1 (xl X) X.2.2.1 (xR X) (xs X) (xm X) (xargs X) (xbelow X) (xmeth X) (xc X) H locs k n (xQ X) g
abbrev gA (E : GE) : Nat → Prop := fun q => E.2.2 ≤ q
def gL (ls : Array Slot) (nL : Nat) (L : List (Option Value)) : Prop := ls.size = nL ∧ lv_wf ls ∧ ∀ (i : Nat) (v : Value), L[i]? = some (some v) → ls[i]? = some (Slot.val v)
def G (E : GE) (X : XT) (nL : Nat) (pc : Nat) (L : List (Option Value)) (st : List Value) (w : Wd) (k n : Nat) : Prop :=
  ∀ (H : Heap) (locs : List Loc) (ls : Array Slot), wOk E w H → va_S (gA E) (xs X).heap H locs → gL ls nL L → xW X H locs k n (F0 (xm X) pc ls st)
/-- what the tables say of the rows' classes -/
def tysOf (ca : Nat → ClassId) : List (ClassId × FieldType) := [(ca 0, .int), (ca 1, .byte), (ca 2, .array .int), (ca 3, .object RX4), (ca 4, .object RX2), (ca 5, .object RX3), (ca 6, .object RX5)]
def KT (E : GE) (U : State) : Prop := va_K E.1 clz (tysOf E.2.1) U ∧ (∃ kA : Class, U.vm.classes[E.2.1 2]? = some kA ∧ kA.kind = .array (E.2.1 0) (.array .int)) ∧ (Cond.arrayOver (.array .int)).before #[] U = true ∧ va_AO RX4 U ∧ va_AO RX2 U ∧ va_AO RX3 U ∧ va_AO RX5 U ∧ va_Nw (.castable "[I" "java/lang/Cloneable") U ∧ va_Nw (.castable "[B" "java/lang/Cloneable") U
def CX (E : GE) (X : XT) (own : String) (cc : ByteArray) (nL : Nat) (ret : Option FieldType) : Prop :=
  X.1.tables.exec = Jvm.exec ∧ (xc X).code = cc ∧ (xc X).maxLocals = nL ∧ (xmeth X).sig.returnType = ret ∧ (xmeth X).locks = false ∧ (xs X).vm.findClass own = some (xm X).cls ∧ (∀ w ∈ GT, w.before (xargs X) (xs X) = true) ∧ KT E (xs X) ∧ E.2.2 ≤ (xs X).heap.size
theorem CX.ex {E X own cc nL ret} (C : CX E X own cc nL ret) : X.1.tables.exec = Jvm.exec := C.1
theorem CX.co {E X own cc nL ret} (C : CX E X own cc nL ret) : (xc X).code = cc := C.2.1
theorem CX.ml {E X own cc nL ret} (C : CX E X own cc nL ret) : (xc X).maxLocals = nL := C.2.2.1
theorem CX.rt {E X own cc nL ret} (C : CX E X own cc nL ret) : (xmeth X).sig.returnType = ret := C.2.2.2.1
theorem CX.lk {E X own cc nL ret} (C : CX E X own cc nL ret) : (xmeth X).locks = false := C.2.2.2.2.1
theorem CX.ow {E X own cc nL ret} (C : CX E X own cc nL ret) : (xs X).vm.findClass own = some (xm X).cls := C.2.2.2.2.2.1
theorem CX.ts {E X own cc nL ret} (C : CX E X own cc nL ret) : ∀ w ∈ GT, w.before (xargs X) (xs X) = true := C.2.2.2.2.2.2.1
theorem CX.kt {E X own cc nL ret} (C : CX E X own cc nL ret) : KT E (xs X) := C.2.2.2.2.2.2.2.1
theorem CX.bs {E X own cc nL ret} (C : CX E X own cc nL ret) : E.2.2 ≤ (xs X).heap.size := C.2.2.2.2.2.2.2.2
/-! locals -/
def lOf (L : List (Option Value)) : List (Nat × Value) := (List.range L.length).filterMap (fun j => (L[j]?.join).map (fun v => (j, v)))
theorem lOf_mem {L : List (Option Value)} {q : Nat × Value} : q ∈ lOf L ↔ L[q.1]? = some (some q.2) := by
  unfold lOf
  simp only [List.mem_filterMap, List.mem_range]
  constructor
  · rintro ⟨j, hj, h⟩
    rw [List.getElem?_eq_getElem hj] at h
    cases hx : L[j] with
    | none => rw [hx] at h; simp at h
    | some v =>
      rw [hx] at h
      simp at h
      subst h
      simp [List.getElem?_eq_getElem hj, hx]
  · intro h
    have hj : q.1 < L.length := (List.getElem?_eq_some_iff.mp h).1
    exact ⟨q.1, hj, by rw [h]; rfl⟩
theorem gL.has {ls : Array Slot} {nL : Nat} {L : List (Option Value)} (h : gL ls nL L) : lv_has ls nL (lOf L) := ⟨h.1, h.2.1, fun q hq => h.2.2 q.1 q.2 (lOf_mem.mp hq)⟩
def isL : Option (Option Value) → Bool
  | some (some (.long _)) => true
  | some (some (.double _)) => true
  | _ => false
theorem isL_cat {v : Value} (h : isL (some (some v)) = false) : v.category ≠ 2 := by
  cases v <;> simp [isL] at h <;> simp [Value.category]
/-- a store of one slot; the slot ahead of it must not hold a long -/
def s1 (L : List (Option Value)) (i : Nat) (v : Value) : List (Option Value) := L.set i (some v)
def s2 (L : List (Option Value)) (i : Nat) (v : Value) : List (Option Value) := (L.set i (some v)).set (i + 1) none
def ok1 (L : List (Option Value)) : Nat → Bool
  | 0 => true
  | i + 1 => !isL L[i]?
theorem ok1_at {L : List (Option Value)} {i j : Nat} {v : Value} (h : ok1 L i = true) (hj : j + 1 = i) (hv : L[j]? = some (some v)) : v.category ≠ 2 := by
  subst hj
  simp only [ok1, hv, Bool.not_eq_true'] at h
  exact isL_cat h
theorem gL.st1 {nL : Nat} {L : List (Option Value)} {i : Nat} {v : Value} (h : ok1 L i = true) {ls' : Array Slot} (h' : lv_has ls' nL ((i, v) :: (lOf L).filter (fun q => !(q.1 == i) && !(q.1 + 1 == i && q.2.category == 2)))) : gL ls' nL (s1 L i v) := by
  refine ⟨h'.1, h'.2.1, fun j u hj => ?_⟩
  unfold s1 at hj
  by_cases e : j = i
  · subst e
    have hl : j < L.length := by
      have := (List.getElem?_eq_some_iff.mp hj).1
      simpa using this
    rw [List.getElem?_set_self hl] at hj
    cases hj
    exact h'.2.2 (j, _) List.mem_cons_self
  · rw [List.getElem?_set_ne (Ne.symm e)] at hj
    refine h'.2.2 (j, u) (List.mem_cons_of_mem _ (List.mem_filter.mpr ⟨lOf_mem.mpr hj, ?_⟩))
    by_cases e2 : j + 1 = i
    · have := ok1_at h e2 hj
      simp [e, this]
    · simp [e, e2]
theorem gL.st2 {nL : Nat} {L : List (Option Value)} {i : Nat} {v : Value} (h : ok1 L i = true) {ls' : Array Slot} (h' : lv_has ls' nL ((i, v) :: (lOf L).filter (fun q => !(q.1 == i) && (!(q.1 == i + 1) && !(q.1 + 1 == i && q.2.category == 2))))) : gL ls' nL (s2 L i v) := by
  refine ⟨h'.1, h'.2.1, fun j u hj => ?_⟩
  unfold s2 at hj
  by_cases e1 : j = i + 1
  · subst e1
    have hl : i + 1 < L.length := by
      have := (List.getElem?_eq_some_iff.mp hj).1
      simpa using this
    rw [List.getElem?_set_self (by simpa using hl)] at hj
    cases hj
  · rw [List.getElem?_set_ne (Ne.symm e1)] at hj
    by_cases e : j = i
    · subst e
      have hl : j < L.length := by
        have := (List.getElem?_eq_some_iff.mp hj).1
        simpa using this
      rw [List.getElem?_set_self hl] at hj
      cases hj
      exact h'.2.2 (j, _) List.mem_cons_self
    · rw [List.getElem?_set_ne (Ne.symm e)] at hj
      refine h'.2.2 (j, u) (List.mem_cons_of_mem _ (List.mem_filter.mpr ⟨lOf_mem.mpr hj, ?_⟩))
      by_cases e2 : j + 1 = i
      · have := ok1_at h e2 hj
        simp [e, e1, this]
      · simp [e, e1, e2]
theorem g_less {E X nL pc} {L L' : List (Option Value)} {st w k n} (hL : ∀ (i : Nat) (v : Value), L'[i]? = some (some v) → L[i]? = some (some v)) (kk : G E X nL pc L' st w k n) : G E X nL pc L st w k n :=
  fun H locs ls h1 h2 h3 => kk H locs ls h1 h2 ⟨h3.1, h3.2.1, fun i v h => h3.2.2 i v (hL i v h)⟩
theorem g_widen {E X nL pc L st w k n k' n'} (h1 : k ≤ k') (h2 : n ≤ n') (kk : G E X nL pc L st w k' n') : G E X nL pc L st w k n :=
  fun H locs ls a b c => W.widen h1 h2 (kk H locs ls a b c)
theorem g_eq {E X nL pc L L' st st' w k n} (hL : L = L') (hs : st = st') (kk : G E X nL pc L' st' w k n) : G E X nL pc L st w k n := by subst hL; subst hs; exact kk

/-! Int32 and Int64 by Int -/
theorem i_lt {a b : Int} (ha : -2147483648 ≤ a ∧ a < 2147483648) (hb : -2147483648 ≤ b ∧ b < 2147483648) : (Int32.ofInt a < Int32.ofInt b) ↔ a < b := by
  rw [Int32.lt_iff_toInt_lt, Int32.toInt_ofInt_of_le (by omega) (by omega), Int32.toInt_ofInt_of_le (by omega) (by omega)]
theorem i_le {a b : Int} (ha : -2147483648 ≤ a ∧ a < 2147483648) (hb : -2147483648 ≤ b ∧ b < 2147483648) : (Int32.ofInt a ≤ Int32.ofInt b) ↔ a ≤ b := by
  rw [Int32.le_iff_toInt_le, Int32.toInt_ofInt_of_le (by omega) (by omega), Int32.toInt_ofInt_of_le (by omega) (by omega)]
theorem i_eq {a b : Int} (ha : -2147483648 ≤ a ∧ a < 2147483648) (hb : -2147483648 ≤ b ∧ b < 2147483648) : (Int32.ofInt a = Int32.ofInt b) ↔ a = b := by
  rw [← Int32.toInt_inj, Int32.toInt_ofInt_of_le (by omega) (by omega), Int32.toInt_ofInt_of_le (by omega) (by omega)]
theorem i_0 : (0 : Int32) = Int32.ofInt 0 := by decide
theorem i_nat {a : Int} (h0 : 0 ≤ a) (h1 : a < 2147483648) : (Int32.ofInt a).toNatClampNeg = a.toNat := Int32.toNatClampNeg_ofInt_of_le (by omega) (by omega)
theorem i_in {a : Int} {n : Nat} (h0 : 0 ≤ a) (h1 : a < n) (h2 : a < 2147483648) : vp_in (Int32.ofInt a) n := by
  rintro (h | h)
  · rw [i_0, i_lt (by omega) (by omega)] at h
    omega
  · rw [i_nat h0 h2] at h
    omega
theorem i_div {a b : Int} (ha : -2147483648 < a ∧ a < 2147483648) (hb : -2147483648 ≤ b ∧ b < 2147483648) : Int32.ofInt a / Int32.ofInt b = Int32.ofInt (a.tdiv b) :=
  (Int32.ofInt_tdiv (by show -2147483648 ≤ a; omega) (by show a ≤ 2147483647; omega) (by show -2147483648 ≤ b; omega) (by show b ≤ 2147483647; omega)).symm
theorem i_rem {a b : Int} (ha : -2147483648 < a ∧ a < 2147483648) (hb : -2147483648 ≤ b ∧ b < 2147483648) : Int32.ofInt a - Int32.ofInt a / Int32.ofInt b * Int32.ofInt b = Int32.ofInt (a.tmod b) := by
  rw [i_div ha hb, ← Int32.ofInt_mul, ← Int32.ofInt_sub, Int.tmod_def, Int.mul_comm]
theorem j_lt {a b : Int} (ha : -9223372036854775808 ≤ a ∧ a < 9223372036854775808) (hb : -9223372036854775808 ≤ b ∧ b < 9223372036854775808) : (Int64.ofInt a < Int64.ofInt b) ↔ a < b := by
  rw [Int64.lt_iff_toInt_lt, Int64.toInt_ofInt_of_le (by omega) (by omega), Int64.toInt_ofInt_of_le (by omega) (by omega)]
theorem j_eq {a b : Int} (ha : -9223372036854775808 ≤ a ∧ a < 9223372036854775808) (hb : -9223372036854775808 ≤ b ∧ b < 9223372036854775808) : (Int64.ofInt a = Int64.ofInt b) ↔ a = b := by
  rw [← Int64.toInt_inj, Int64.toInt_ofInt_of_le (by omega) (by omega), Int64.toInt_ofInt_of_le (by omega) (by omega)]
theorem j_div {a b : Int} (ha : -9223372036854775808 < a ∧ a < 9223372036854775808) (hb : -9223372036854775808 ≤ b ∧ b < 9223372036854775808) : Int64.ofInt a / Int64.ofInt b = Int64.ofInt (a.tdiv b) :=
  (Int64.ofInt_tdiv (by show -9223372036854775808 ≤ a; omega) (by show a ≤ 9223372036854775807; omega) (by show -9223372036854775808 ≤ b; omega) (by show b ≤ 9223372036854775807; omega)).symm
theorem j_rem {a b : Int} (ha : -9223372036854775808 < a ∧ a < 9223372036854775808) (hb : -9223372036854775808 ≤ b ∧ b < 9223372036854775808) : Int64.ofInt a - Int64.ofInt a / Int64.ofInt b * Int64.ofInt b = Int64.ofInt (a.tmod b) := by
  rw [j_div ha hb, ← Int64.ofInt_mul, ← Int64.ofInt_sub, Int.tmod_def, Int.mul_comm]
theorem i_j {a : Int} (ha : -2147483648 ≤ a ∧ a < 2147483648) : (Int32.ofInt a).toInt64 = Int64.ofInt a := by
  rw [← Int64.toInt_inj, Int32.toInt_toInt64, Int32.toInt_ofInt_of_le (by omega) (by omega), Int64.toInt_ofInt_of_le (by omega) (by omega)]
theorem j_i (a : Int) : (Int64.ofInt a).toInt32 = Int32.ofInt a := by
  rw [← Int32.toInt_inj, Int64.toInt_toInt32, Int64.toInt_ofInt, Int32.toInt_ofInt]
  exact Int.bmod_bmod_of_dvd (by decide)
theorem i_of (x : Int32) : x = Int32.ofInt x.toInt := (Int32.ofInt_toInt x).symm
theorem i_rng (x : Int32) : -2147483648 ≤ x.toInt ∧ x.toInt < 2147483648 := ⟨Int32.le_toInt x, Int32.toInt_lt x⟩

theorem g_iconst {E X own cc nL ret pc L st w k n} {z : Int} (C : CX E X own cc nL ret) (d : decode cc pc = .ok (.iconst z, 1)) (kk : G E X nL (pc + 1) L (iI z :: st) w k n) : G E X nL pc L (st) w k n :=
  fun H locs ls h1 h2 h3 => lv_iconst C.ex C.co d rfl (kk H locs ls h1 h2 h3)
theorem g_bipush {E X own cc nL ret pc L st w k n} {z : Int} (C : CX E X own cc nL ret) (d : decode cc pc = .ok (.bipush z, 2)) (h : (Int8.ofInt z).toInt32 = Int32.ofInt z) (kk : G E X nL (pc + 2) L (iI z :: st) w k n) : G E X nL pc L (st) w k n :=
  fun H locs ls h1 h2 h3 => lv_bipush C.ex C.co d h (kk H locs ls h1 h2 h3)
theorem g_sipush {E X own cc nL ret pc L st w k n} {z : Int} (C : CX E X own cc nL ret) (d : decode cc pc = .ok (.sipush z, 3)) (h : (Int16.ofInt z).toInt32 = Int32.ofInt z) (kk : G E X nL (pc + 3) L (iI z :: st) w k n) : G E X nL pc L (st) w k n :=
  fun H locs ls h1 h2 h3 => lv_sipush C.ex C.co d h (kk H locs ls h1 h2 h3)
theorem g_lconst {E X own cc nL ret pc L st w k n} {q : Fin 2} {z : Int} (C : CX E X own cc nL ret) (d : decode cc pc = .ok (.lconst q, 1)) (h : Int64.ofNat q.val = Int64.ofInt z) (kk : G E X nL (pc + 1) L (jJ z :: st) w k n) : G E X nL pc L (st) w k n :=
  fun H locs ls h1 h2 h3 => lv_lconst C.ex C.co d h (kk H locs ls h1 h2 h3)
theorem g_null {E X own cc nL ret pc L st w k n}  (C : CX E X own cc nL ret) (d : decode cc pc = .ok (.aconst_null, 1)) (kk : G E X nL (pc + 1) L (.null :: st) w k n) : G E X nL pc L (st) w k n :=
  fun H locs ls h1 h2 h3 => lv_null C.ex C.co d (kk H locs ls h1 h2 h3)
theorem g_iload_n {E X own cc nL ret pc L st w k n} {q : Fin 4} {x : Int} (C : CX E X own cc nL ret) (d : decode cc pc = .ok (.iload_n q, 1)) (hl : L[(q : Nat)]? = some (some (iI x))) (kk : G E X nL (pc + 1) L (iI x :: st) w k n) : G E X nL pc L (st) w k n :=
  fun H locs ls h1 h2 h3 => lv_iload_n C.ex C.co d rfl (h3.2.2 _ _ hl) (kk H locs ls h1 h2 h3)
theorem g_iload {E X own cc nL ret pc L st w k n} {q : Nat} {x : Int} (C : CX E X own cc nL ret) (d : decode cc pc = .ok (.iload q, 2)) (hl : L[q]? = some (some (iI x))) (kk : G E X nL (pc + 2) L (iI x :: st) w k n) : G E X nL pc L (st) w k n :=
  fun H locs ls h1 h2 h3 => lv_iload C.ex C.co d (h3.2.2 _ _ hl) (kk H locs ls h1 h2 h3)
theorem g_lload_n {E X own cc nL ret pc L st w k n} {q : Fin 4} {x : Int} (C : CX E X own cc nL ret) (d : decode cc pc = .ok (.lload_n q, 1)) (hl : L[(q : Nat)]? = some (some (jJ x))) (kk : G E X nL (pc + 1) L (jJ x :: st) w k n) : G E X nL pc L (st) w k n :=
  fun H locs ls h1 h2 h3 => lv_lload_n C.ex C.co d rfl (h3.2.2 _ _ hl) (kk H locs ls h1 h2 h3)
theorem g_lload {E X own cc nL ret pc L st w k n} {q : Nat} {x : Int} (C : CX E X own cc nL ret) (d : decode cc pc = .ok (.lload q, 2)) (hl : L[q]? = some (some (jJ x))) (kk : G E X nL (pc + 2) L (jJ x :: st) w k n) : G E X nL pc L (st) w k n :=
  fun H locs ls h1 h2 h3 => lv_lload C.ex C.co d (h3.2.2 _ _ hl) (kk H locs ls h1 h2 h3)
theorem g_aload_n {E X own cc nL ret pc L st w k n} {q : Fin 4} {x : Nat} (C : CX E X own cc nL ret) (d : decode cc pc = .ok (.aload_n q, 1)) (hl : L[(q : Nat)]? = some (some (.ref x))) (kk : G E X nL (pc + 1) L (.ref x :: st) w k n) : G E X nL pc L (st) w k n :=
  fun H locs ls h1 h2 h3 => lv_aload_n C.ex C.co d rfl (h3.2.2 _ _ hl) (kk H locs ls h1 h2 h3)
theorem g_aload {E X own cc nL ret pc L st w k n} {q : Nat} {x : Nat} (C : CX E X own cc nL ret) (d : decode cc pc = .ok (.aload q, 2)) (hl : L[q]? = some (some (.ref x))) (kk : G E X nL (pc + 2) L (.ref x :: st) w k n) : G E X nL pc L (st) w k n :=
  fun H locs ls h1 h2 h3 => lv_aload C.ex C.co d (h3.2.2 _ _ hl) (kk H locs ls h1 h2 h3)
theorem g_aload_nN {E X own cc nL ret pc L st w k n} {q : Fin 4} (C : CX E X own cc nL ret) (d : decode cc pc = .ok (.aload_n q, 1)) (hl : L[(q : Nat)]? = some (some .null)) (kk : G E X nL (pc + 1) L (.null :: st) w k n) : G E X nL pc L (st) w k n :=
  fun H locs ls h1 h2 h3 => lv_aload_nN C.ex C.co d rfl (h3.2.2 _ _ hl) (kk H locs ls h1 h2 h3)
theorem g_aloadN {E X own cc nL ret pc L st w k n} {q : Nat} (C : CX E X own cc nL ret) (d : decode cc pc = .ok (.aload q, 2)) (hl : L[q]? = some (some .null)) (kk : G E X nL (pc + 2) L (.null :: st) w k n) : G E X nL pc L (st) w k n :=
  fun H locs ls h1 h2 h3 => lv_aloadN C.ex C.co d (h3.2.2 _ _ hl) (kk H locs ls h1 h2 h3)
theorem g_istore_n {E X own cc nL ret pc L st w k n} {q : Fin 4} {x : Int} (C : CX E X own cc nL ret) (d : decode cc pc = .ok (.istore_n q, 1)) (hn : (q : Nat) < nL) (ho : ok1 L q = true) (kk : G E X nL (pc + 1) (s1 L q (iI x)) st w k n) : G E X nL pc L (iI x :: st) w k n :=
  fun H locs ls h1 h2 h3 => lv_istore_n C.ex C.co d rfl h3.has hn rfl (fun ls' h' => kk H locs ls' h1 h2 (gL.st1 ho h'))
theorem g_istore {E X own cc nL ret pc L st w k n} {q : Nat} {x : Int} (C : CX E X own cc nL ret) (d : decode cc pc = .ok (.istore q, 2)) (hn : q < nL) (ho : ok1 L q = true) (kk : G E X nL (pc + 2) (s1 L q (iI x)) st w k n) : G E X nL pc L (iI x :: st) w k n :=
  fun H locs ls h1 h2 h3 => lv_istore C.ex C.co d h3.has hn rfl (fun ls' h' => kk H locs ls' h1 h2 (gL.st1 ho h'))
theorem g_astore_n {E X own cc nL ret pc L st w k n} {q : Fin 4} {x : Nat} (C : CX E X own cc nL ret) (d : decode cc pc = .ok (.astore_n q, 1)) (hn : (q : Nat) < nL) (ho : ok1 L q = true) (kk : G E X nL (pc + 1) (s1 L q (.ref x)) st w k n) : G E X nL pc L (.ref x :: st) w k n :=
  fun H locs ls h1 h2 h3 => lv_astore_n C.ex C.co d rfl h3.has hn rfl (fun ls' h' => kk H locs ls' h1 h2 (gL.st1 ho h'))
theorem g_astore {E X own cc nL ret pc L st w k n} {q : Nat} {x : Nat} (C : CX E X own cc nL ret) (d : decode cc pc = .ok (.astore q, 2)) (hn : q < nL) (ho : ok1 L q = true) (kk : G E X nL (pc + 2) (s1 L q (.ref x)) st w k n) : G E X nL pc L (.ref x :: st) w k n :=
  fun H locs ls h1 h2 h3 => lv_astore C.ex C.co d h3.has hn rfl (fun ls' h' => kk H locs ls' h1 h2 (gL.st1 ho h'))
theorem g_lstore_n {E X own cc nL ret pc L st w k n} {q : Fin 4} {x : Int} (C : CX E X own cc nL ret) (d : decode cc pc = .ok (.lstore_n q, 1)) (hn : (q : Nat) + 1 < nL) (ho : ok1 L q = true) (kk : G E X nL (pc + 1) (s2 L q (jJ x)) st w k n) : G E X nL pc L (jJ x :: st) w k n :=
  fun H locs ls h1 h2 h3 => lv_lstore_n C.ex C.co d rfl h3.has hn rfl (fun ls' h' => kk H locs ls' h1 h2 (gL.st2 ho h'))
theorem g_lstore {E X own cc nL ret pc L st w k n} {q : Nat} {x : Int} (C : CX E X own cc nL ret) (d : decode cc pc = .ok (.lstore q, 2)) (hn : q + 1 < nL) (ho : ok1 L q = true) (kk : G E X nL (pc + 2) (s2 L q (jJ x)) st w k n) : G E X nL pc L (jJ x :: st) w k n :=
  fun H locs ls h1 h2 h3 => lv_lstore C.ex C.co d h3.has hn rfl (fun ls' h' => kk H locs ls' h1 h2 (gL.st2 ho h'))
theorem g_iinc {E X own cc nL ret pc L st w k n} {q : Nat} {z x : Int} (C : CX E X own cc nL ret) (d : decode cc pc = .ok (.iinc q z, 3)) (hl : L[q]? = some (some (iI x))) (hn : q < nL) (ho : ok1 L q = true) (kk : G E X nL (pc + 3) (s1 L q (iI (x + z))) st w k n) : G E X nL pc L st w k n := by
  intro H locs ls h1 h2 h3
  obtain ⟨j, hj⟩ := List.getElem?_of_mem (lOf_mem (q := (q, iI x)).mpr hl)
  exact lv_iinc C.ex C.co d h3.has hj (Int32.ofInt_add x z).symm hn rfl (fun ls' h' => kk H locs ls' h1 h2 (gL.st1 ho h'))
theorem g_iadd {E X own cc nL ret pc L st w k n} {x y : Int} (C : CX E X own cc nL ret) (d : decode cc pc = .ok (.iadd, 1)) (kk : G E X nL (pc + 1) L (iI (x + y) :: st) w k n) : G E X nL pc L (iI y :: iI x :: st) w k n :=
  fun H locs ls h1 h2 h3 => lv_iadd C.ex C.co d (by have q := kk H locs ls h1 h2 h3; simp only [iI, Int32.ofInt_add] at q; exact q)
theorem g_isub {E X own cc nL ret pc L st w k n} {x y : Int} (C : CX E X own cc nL ret) (d : decode cc pc = .ok (.isub, 1)) (kk : G E X nL (pc + 1) L (iI (x - y) :: st) w k n) : G E X nL pc L (iI y :: iI x :: st) w k n :=
  fun H locs ls h1 h2 h3 => lv_isub C.ex C.co d (by have q := kk H locs ls h1 h2 h3; simp only [iI, Int32.ofInt_sub] at q; exact q)
theorem g_imul {E X own cc nL ret pc L st w k n} {x y : Int} (C : CX E X own cc nL ret) (d : decode cc pc = .ok (.imul, 1)) (kk : G E X nL (pc + 1) L (iI (x * y) :: st) w k n) : G E X nL pc L (iI y :: iI x :: st) w k n :=
  fun H locs ls h1 h2 h3 => lv_imul C.ex C.co d (by have q := kk H locs ls h1 h2 h3; simp only [iI, Int32.ofInt_mul] at q; exact q)
theorem g_ladd {E X own cc nL ret pc L st w k n} {x y : Int} (C : CX E X own cc nL ret) (d : decode cc pc = .ok (.ladd, 1)) (kk : G E X nL (pc + 1) L (jJ (x + y) :: st) w k n) : G E X nL pc L (jJ y :: jJ x :: st) w k n :=
  fun H locs ls h1 h2 h3 => lv_ladd C.ex C.co d (by have q := kk H locs ls h1 h2 h3; simp only [jJ, Int64.ofInt_add] at q; exact q)
theorem g_lsub {E X own cc nL ret pc L st w k n} {x y : Int} (C : CX E X own cc nL ret) (d : decode cc pc = .ok (.lsub, 1)) (kk : G E X nL (pc + 1) L (jJ (x - y) :: st) w k n) : G E X nL pc L (jJ y :: jJ x :: st) w k n :=
  fun H locs ls h1 h2 h3 => lv_lsub C.ex C.co d (by have q := kk H locs ls h1 h2 h3; simp only [jJ, Int64.ofInt_sub] at q; exact q)
theorem g_lmul {E X own cc nL ret pc L st w k n} {x y : Int} (C : CX E X own cc nL ret) (d : decode cc pc = .ok (.lmul, 1)) (kk : G E X nL (pc + 1) L (jJ (x * y) :: st) w k n) : G E X nL pc L (jJ y :: jJ x :: st) w k n :=
  fun H locs ls h1 h2 h3 => lv_lmul C.ex C.co d (by have q := kk H locs ls h1 h2 h3; simp only [jJ, Int64.ofInt_mul] at q; exact q)
theorem g_ineg {E X own cc nL ret pc L st w k n} {x : Int} (C : CX E X own cc nL ret) (d : decode cc pc = .ok (.ineg, 1)) (kk : G E X nL (pc + 1) L (iI (-x) :: st) w k n) : G E X nL pc L (iI x :: st) w k n :=
  fun H locs ls h1 h2 h3 => lv_ineg C.ex C.co d (by have q := kk H locs ls h1 h2 h3; simp only [iI, Int32.ofInt_neg] at q; exact q)
theorem g_lneg {E X own cc nL ret pc L st w k n} {x : Int} (C : CX E X own cc nL ret) (d : decode cc pc = .ok (.lneg, 1)) (kk : G E X nL (pc + 1) L (jJ (-x) :: st) w k n) : G E X nL pc L (jJ x :: st) w k n :=
  fun H locs ls h1 h2 h3 => lv_lneg C.ex C.co d (by have q := kk H locs ls h1 h2 h3; simp only [jJ, Int64.ofInt_neg] at q; exact q)
theorem g_idiv {E X own cc nL ret pc L st w k n} {x y : Int} (C : CX E X own cc nL ret) (d : decode cc pc = .ok (.idiv, 1)) (hx : -2147483648 < x ∧ x < 2147483648) (hy : -2147483648 ≤ y ∧ y < 2147483648) (h0 : y ≠ 0) (kk : G E X nL (pc + 1) L (iI (x.tdiv y) :: st) w k n) : G E X nL pc L (iI y :: iI x :: st) w k n :=
  fun H locs ls h1 h2 h3 => lv_idiv C.ex C.co d (by rw [i_0, i_eq hy (by omega)]; exact h0) (by rw [i_div hx hy]; exact kk H locs ls h1 h2 h3)
theorem g_irem {E X own cc nL ret pc L st w k n} {x y : Int} (C : CX E X own cc nL ret) (d : decode cc pc = .ok (.irem, 1)) (hx : -2147483648 < x ∧ x < 2147483648) (hy : -2147483648 ≤ y ∧ y < 2147483648) (h0 : y ≠ 0) (kk : G E X nL (pc + 1) L (iI (x.tmod y) :: st) w k n) : G E X nL pc L (iI y :: iI x :: st) w k n :=
  fun H locs ls h1 h2 h3 => lv_irem C.ex C.co d (by rw [i_0, i_eq hy (by omega)]; exact h0) (by rw [i_rem hx hy]; exact kk H locs ls h1 h2 h3)
theorem g_ldiv {E X own cc nL ret pc L st w k n} {x y : Int} (C : CX E X own cc nL ret) (d : decode cc pc = .ok (.ldiv, 1)) (hx : -9223372036854775808 < x ∧ x < 9223372036854775808) (hy : -9223372036854775808 ≤ y ∧ y < 9223372036854775808) (h0 : y ≠ 0) (kk : G E X nL (pc + 1) L (jJ (x.tdiv y) :: st) w k n) : G E X nL pc L (jJ y :: jJ x :: st) w k n :=
  fun H locs ls h1 h2 h3 => lv_ldiv C.ex C.co d (by rw [show (0 : Int64) = Int64.ofInt 0 from rfl, j_eq hy (by omega)]; exact h0) (by rw [j_div hx hy]; exact kk H locs ls h1 h2 h3)
theorem g_lrem {E X own cc nL ret pc L st w k n} {x y : Int} (C : CX E X own cc nL ret) (d : decode cc pc = .ok (.lrem, 1)) (hx : -9223372036854775808 < x ∧ x < 9223372036854775808) (hy : -9223372036854775808 ≤ y ∧ y < 9223372036854775808) (h0 : y ≠ 0) (kk : G E X nL (pc + 1) L (jJ (x.tmod y) :: st) w k n) : G E X nL pc L (jJ y :: jJ x :: st) w k n :=
  fun H locs ls h1 h2 h3 => lv_lrem C.ex C.co d (by rw [show (0 : Int64) = Int64.ofInt 0 from rfl, j_eq hy (by omega)]; exact h0) (by rw [j_rem hx hy]; exact kk H locs ls h1 h2 h3)
theorem g_i2l {E X own cc nL ret pc L st w k n} {x : Int} (C : CX E X own cc nL ret) (d : decode cc pc = .ok (.i2l, 1)) (hx : -2147483648 ≤ x ∧ x < 2147483648) (kk : G E X nL (pc + 1) L (jJ x :: st) w k n) : G E X nL pc L (iI x :: st) w k n :=
  fun H locs ls h1 h2 h3 => lv_i2l C.ex C.co d (i_j hx) (kk H locs ls h1 h2 h3)
theorem g_l2i {E X own cc nL ret pc L st w k n} {x : Int} (C : CX E X own cc nL ret) (d : decode cc pc = .ok (.l2i, 1)) (kk : G E X nL (pc + 1) L (iI x :: st) w k n) : G E X nL pc L (jJ x :: st) w k n :=
  fun H locs ls h1 h2 h3 => lv_l2i C.ex C.co d (j_i x) (kk H locs ls h1 h2 h3)
theorem g_iand {E X own cc nL ret pc L st w k n} {x y z : Int} (C : CX E X own cc nL ret) (d : decode cc pc = .ok (.iand, 1)) (h : Int32.ofInt x &&& Int32.ofInt y = Int32.ofInt z) (kk : G E X nL (pc + 1) L (iI z :: st) w k n) : G E X nL pc L (iI y :: iI x :: st) w k n :=
  fun H locs ls h1 h2 h3 => lv_iand C.ex C.co d (by rw [h]; exact kk H locs ls h1 h2 h3)
theorem g_ior {E X own cc nL ret pc L st w k n} {x y z : Int} (C : CX E X own cc nL ret) (d : decode cc pc = .ok (.ior, 1)) (h : Int32.ofInt x ||| Int32.ofInt y = Int32.ofInt z) (kk : G E X nL (pc + 1) L (iI z :: st) w k n) : G E X nL pc L (iI y :: iI x :: st) w k n :=
  fun H locs ls h1 h2 h3 => lv_ior C.ex C.co d (by rw [h]; exact kk H locs ls h1 h2 h3)
theorem g_ishl {E X own cc nL ret pc L st w k n} {x y z : Int} (C : CX E X own cc nL ret) (d : decode cc pc = .ok (.ishl, 1)) (h : Int32.ofInt x <<< (Int32.ofInt y &&& 31) = Int32.ofInt z) (kk : G E X nL (pc + 1) L (iI z :: st) w k n) : G E X nL pc L (iI y :: iI x :: st) w k n :=
  fun H locs ls h1 h2 h3 => lv_ishl C.ex C.co d (by rw [h]; exact kk H locs ls h1 h2 h3)
theorem g_ishr {E X own cc nL ret pc L st w k n} {x y z : Int} (C : CX E X own cc nL ret) (d : decode cc pc = .ok (.ishr, 1)) (h : Int32.ofInt x >>> (Int32.ofInt y &&& 31) = Int32.ofInt z) (kk : G E X nL (pc + 1) L (iI z :: st) w k n) : G E X nL pc L (iI y :: iI x :: st) w k n :=
  fun H locs ls h1 h2 h3 => lv_ishr C.ex C.co d (by rw [h]; exact kk H locs ls h1 h2 h3)
theorem g_iushr {E X own cc nL ret pc L st w k n} {x y z : Int} (C : CX E X own cc nL ret) (d : decode cc pc = .ok (.iushr, 1)) (h : ((Int32.ofInt x).toUInt32 >>> ((Int32.ofInt y).toUInt32 &&& Int32.toUInt32 31)).toInt32 = Int32.ofInt z) (kk : G E X nL (pc + 1) L (iI z :: st) w k n) : G E X nL pc L (iI y :: iI x :: st) w k n :=
  fun H locs ls h1 h2 h3 => lv_iushr C.ex C.co d h (kk H locs ls h1 h2 h3)
theorem g_land {E X own cc nL ret pc L st w k n} {x y z : Int} (C : CX E X own cc nL ret) (d : decode cc pc = .ok (.land, 1)) (h : Int64.ofInt x &&& Int64.ofInt y = Int64.ofInt z) (kk : G E X nL (pc + 1) L (jJ z :: st) w k n) : G E X nL pc L (jJ y :: jJ x :: st) w k n :=
  fun H locs ls h1 h2 h3 => lv_land C.ex C.co d (by rw [h]; exact kk H locs ls h1 h2 h3)
theorem g_lor {E X own cc nL ret pc L st w k n} {x y z : Int} (C : CX E X own cc nL ret) (d : decode cc pc = .ok (.lor, 1)) (h : Int64.ofInt x ||| Int64.ofInt y = Int64.ofInt z) (kk : G E X nL (pc + 1) L (jJ z :: st) w k n) : G E X nL pc L (jJ y :: jJ x :: st) w k n :=
  fun H locs ls h1 h2 h3 => lv_lor C.ex C.co d (by rw [h]; exact kk H locs ls h1 h2 h3)
theorem g_lshl {E X own cc nL ret pc L st w k n} {x y z : Int} (C : CX E X own cc nL ret) (d : decode cc pc = .ok (.lshl, 1)) (h : Int64.ofInt x <<< ((Int32.ofInt y).toInt64 &&& 63) = Int64.ofInt z) (kk : G E X nL (pc + 1) L (jJ z :: st) w k n) : G E X nL pc L (iI y :: jJ x :: st) w k n :=
  fun H locs ls h1 h2 h3 => lv_lshl C.ex C.co d h (kk H locs ls h1 h2 h3)
theorem g_lshr {E X own cc nL ret pc L st w k n} {x y z : Int} (C : CX E X own cc nL ret) (d : decode cc pc = .ok (.lshr, 1)) (h : Int64.ofInt x >>> ((Int32.ofInt y).toInt64 &&& 63) = Int64.ofInt z) (kk : G E X nL (pc + 1) L (jJ z :: st) w k n) : G E X nL pc L (iI y :: jJ x :: st) w k n :=
  fun H locs ls h1 h2 h3 => lv_lshr C.ex C.co d h (kk H locs ls h1 h2 h3)
theorem g_lushr {E X own cc nL ret pc L st w k n} {x y z : Int} (C : CX E X own cc nL ret) (d : decode cc pc = .ok (.lushr, 1)) (h : ((Int64.ofInt x).toUInt64 >>> ((Int32.ofInt y).toInt64.toUInt64 &&& Int64.toUInt64 63)).toInt64 = Int64.ofInt z) (kk : G E X nL (pc + 1) L (jJ z :: st) w k n) : G E X nL pc L (iI y :: jJ x :: st) w k n :=
  fun H locs ls h1 h2 h3 => lv_lushr C.ex C.co d h (kk H locs ls h1 h2 h3)
theorem g_i2b {E X own cc nL ret pc L st w k n} {x z : Int} (C : CX E X own cc nL ret) (d : decode cc pc = .ok (.i2b, 1)) (h : (Int32.ofInt x).toInt8.toInt32 = Int32.ofInt z) (kk : G E X nL (pc + 1) L (iI z :: st) w k n) : G E X nL pc L (iI x :: st) w k n :=
  fun H locs ls h1 h2 h3 => lv_i2b C.ex C.co d h (kk H locs ls h1 h2 h3)
theorem g_i2c {E X own cc nL ret pc L st w k n} {x z : Int} (C : CX E X own cc nL ret) (d : decode cc pc = .ok (.i2c, 1)) (h : ((Int32.ofInt x).toUInt32 % 65536).toInt32 = Int32.ofInt z) (kk : G E X nL (pc + 1) L (iI z :: st) w k n) : G E X nL pc L (iI x :: st) w k n :=
  fun H locs ls h1 h2 h3 => lv_i2c C.ex C.co d h (kk H locs ls h1 h2 h3)
theorem g_dup {E X own cc nL ret pc L st w k n} {v : Value} (C : CX E X own cc nL ret) (d : decode cc pc = .ok (.dup, 1)) (h : v.category = 1) (kk : G E X nL (pc + 1) L (v :: v :: st) w k n) : G E X nL pc L (v :: st) w k n :=
  fun H locs ls h1 h2 h3 => lv_dup C.ex C.co d h (kk H locs ls h1 h2 h3)
theorem g_pop {E X own cc nL ret pc L st w k n} {v : Value} (C : CX E X own cc nL ret) (d : decode cc pc = .ok (.pop, 1)) (h : v.category = 1) (kk : G E X nL (pc + 1) L (st) w k n) : G E X nL pc L (v :: st) w k n :=
  fun H locs ls h1 h2 h3 => lv_pop C.ex C.co d h (kk H locs ls h1 h2 h3)
theorem g_dup_x1 {E X own cc nL ret pc L st w k n} {v u : Value} (C : CX E X own cc nL ret) (d : decode cc pc = .ok (.dup_x1, 1)) (h : v.category = 1) (h0 : u.category = 1) (kk : G E X nL (pc + 1) L (v :: u :: v :: st) w k n) : G E X nL pc L (v :: u :: st) w k n :=
  fun H locs ls h1 h2 h3 => lv_dup_x1 C.ex C.co d h h0 (kk H locs ls h1 h2 h3)
theorem g_dup2 {E X own cc nL ret pc L st w k n} {v u : Value} (C : CX E X own cc nL ret) (d : decode cc pc = .ok (.dup2, 1)) (h : v.category = 1) (h0 : u.category = 1) (kk : G E X nL (pc + 1) L (v :: u :: v :: u :: st) w k n) : G E X nL pc L (v :: u :: st) w k n :=
  fun H locs ls h1 h2 h3 => lv_dup2_11 C.ex C.co d h h0 (kk H locs ls h1 h2 h3)
theorem g_dup2L {E X own cc nL ret pc L st w k n} {v : Value} (C : CX E X own cc nL ret) (d : decode cc pc = .ok (.dup2, 1)) (h : v.category = 2) (kk : G E X nL (pc + 1) L (v :: v :: st) w k n) : G E X nL pc L (v :: st) w k n :=
  fun H locs ls h1 h2 h3 => lv_dup2_2 C.ex C.co d h (kk H locs ls h1 h2 h3)
theorem g_pop2L {E X own cc nL ret pc L st w k n} {v : Value} (C : CX E X own cc nL ret) (d : decode cc pc = .ok (.pop2, 1)) (h : v.category = 2) (kk : G E X nL (pc + 1) L (st) w k n) : G E X nL pc L (v :: st) w k n :=
  fun H locs ls h1 h2 h3 => lv_pop2_2 C.ex C.co d h (kk H locs ls h1 h2 h3)
theorem g_icmp_eq {E X own cc nL ret pc L st w k n} {x y : Int} {off : Int} {tgt : Nat} (C : CX E X own cc nL ret) (d : decode cc pc = .ok (.if_icmp .eq off, 3)) (ht : (pc : Int) + off = (tgt : Int)) (hx : -2147483648 ≤ x ∧ x < 2147483648) (hy : -2147483648 ≤ y ∧ y < 2147483648)
    (kt : x = y → G E X nL tgt L st w k n) (kf : ¬ (x = y) → G E X nL (pc + 3) L st w k n) : G E X nL pc L (iI y :: iI x :: st) w k n := by
  intro H locs ls h1 h2 h3
  refine lv_icmp_eq C.ex C.co d ht (fun h => kt ?_ H locs ls h1 h2 h3) (fun h => kf ?_ H locs ls h1 h2 h3)
  · first | exact (i_eq hx hy).mp h | exact (i_eq hy hx).mp h | exact fun q => h ((i_eq hx hy).mpr q)
  · first | exact fun q => h ((i_eq hx hy).mpr q) | exact fun q => h ((i_eq hy hx).mpr q) | exact fun q => h (fun p => q ((i_eq hx hy).mp p)) | exact fun q => q ((i_eq hx hy).mp h)
theorem g_if_eq {E X own cc nL ret pc L st w k n} {x : Int} {off : Int} {tgt : Nat} (C : CX E X own cc nL ret) (d : decode cc pc = .ok (.ifCond .eq off, 3)) (ht : (pc : Int) + off = (tgt : Int)) (hx : -2147483648 ≤ x ∧ x < 2147483648)
    (kt : x = 0 → G E X nL tgt L st w k n) (kf : ¬ (x = 0) → G E X nL (pc + 3) L st w k n) : G E X nL pc L (iI x :: st) w k n := by
  intro H locs ls h1 h2 h3
  have hy : (-2147483648 : Int) ≤ 0 ∧ (0 : Int) < 2147483648 := by omega
  refine lv_if_eq C.ex C.co d ht (fun h => kt ?_ H locs ls h1 h2 h3) (fun h => kf ?_ H locs ls h1 h2 h3)
  · rw [i_0] at h
    first | exact (i_eq hx hy).mp h | exact (i_eq hy hx).mp h | exact fun q => h ((i_eq hx hy).mpr q)
  · rw [i_0] at h
    first | exact fun q => h ((i_eq hx hy).mpr q) | exact fun q => h ((i_eq hy hx).mpr q) | exact fun q => h (fun p => q ((i_eq hx hy).mp p)) | exact fun q => q ((i_eq hx hy).mp h)
theorem g_icmp_ne {E X own cc nL ret pc L st w k n} {x y : Int} {off : Int} {tgt : Nat} (C : CX E X own cc nL ret) (d : decode cc pc = .ok (.if_icmp .ne off, 3)) (ht : (pc : Int) + off = (tgt : Int)) (hx : -2147483648 ≤ x ∧ x < 2147483648) (hy : -2147483648 ≤ y ∧ y < 2147483648)
    (kt : x ≠ y → G E X nL tgt L st w k n) (kf : ¬ (x ≠ y) → G E X nL (pc + 3) L st w k n) : G E X nL pc L (iI y :: iI x :: st) w k n := by
  intro H locs ls h1 h2 h3
  refine lv_icmp_ne C.ex C.co d ht (fun h => kt ?_ H locs ls h1 h2 h3) (fun h => kf ?_ H locs ls h1 h2 h3)
  · first | exact (i_eq hx hy).mp h | exact (i_eq hy hx).mp h | exact fun q => h ((i_eq hx hy).mpr q)
  · first | exact fun q => h ((i_eq hx hy).mpr q) | exact fun q => h ((i_eq hy hx).mpr q) | exact fun q => h (fun p => q ((i_eq hx hy).mp p)) | exact fun q => q ((i_eq hx hy).mp h)
theorem g_if_ne {E X own cc nL ret pc L st w k n} {x : Int} {off : Int} {tgt : Nat} (C : CX E X own cc nL ret) (d : decode cc pc = .ok (.ifCond .ne off, 3)) (ht : (pc : Int) + off = (tgt : Int)) (hx : -2147483648 ≤ x ∧ x < 2147483648)
    (kt : x ≠ 0 → G E X nL tgt L st w k n) (kf : ¬ (x ≠ 0) → G E X nL (pc + 3) L st w k n) : G E X nL pc L (iI x :: st) w k n := by
  intro H locs ls h1 h2 h3
  have hy : (-2147483648 : Int) ≤ 0 ∧ (0 : Int) < 2147483648 := by omega
  refine lv_if_ne C.ex C.co d ht (fun h => kt ?_ H locs ls h1 h2 h3) (fun h => kf ?_ H locs ls h1 h2 h3)
  · rw [i_0] at h
    first | exact (i_eq hx hy).mp h | exact (i_eq hy hx).mp h | exact fun q => h ((i_eq hx hy).mpr q)
  · rw [i_0] at h
    first | exact fun q => h ((i_eq hx hy).mpr q) | exact fun q => h ((i_eq hy hx).mpr q) | exact fun q => h (fun p => q ((i_eq hx hy).mp p)) | exact fun q => q ((i_eq hx hy).mp h)
theorem g_icmp_lt {E X own cc nL ret pc L st w k n} {x y : Int} {off : Int} {tgt : Nat} (C : CX E X own cc nL ret) (d : decode cc pc = .ok (.if_icmp .lt off, 3)) (ht : (pc : Int) + off = (tgt : Int)) (hx : -2147483648 ≤ x ∧ x < 2147483648) (hy : -2147483648 ≤ y ∧ y < 2147483648)
    (kt : x < y → G E X nL tgt L st w k n) (kf : ¬ (x < y) → G E X nL (pc + 3) L st w k n) : G E X nL pc L (iI y :: iI x :: st) w k n := by
  intro H locs ls h1 h2 h3
  refine lv_icmp_lt C.ex C.co d ht (fun h => kt ?_ H locs ls h1 h2 h3) (fun h => kf ?_ H locs ls h1 h2 h3)
  · first | exact (i_lt hx hy).mp h | exact (i_lt hy hx).mp h | exact fun q => h ((i_lt hx hy).mpr q)
  · first | exact fun q => h ((i_lt hx hy).mpr q) | exact fun q => h ((i_lt hy hx).mpr q) | exact fun q => h (fun p => q ((i_lt hx hy).mp p)) | exact fun q => q ((i_lt hx hy).mp h)
theorem g_if_lt {E X own cc nL ret pc L st w k n} {x : Int} {off : Int} {tgt : Nat} (C : CX E X own cc nL ret) (d : decode cc pc = .ok (.ifCond .lt off, 3)) (ht : (pc : Int) + off = (tgt : Int)) (hx : -2147483648 ≤ x ∧ x < 2147483648)
    (kt : x < 0 → G E X nL tgt L st w k n) (kf : ¬ (x < 0) → G E X nL (pc + 3) L st w k n) : G E X nL pc L (iI x :: st) w k n := by
  intro H locs ls h1 h2 h3
  have hy : (-2147483648 : Int) ≤ 0 ∧ (0 : Int) < 2147483648 := by omega
  refine lv_if_lt C.ex C.co d ht (fun h => kt ?_ H locs ls h1 h2 h3) (fun h => kf ?_ H locs ls h1 h2 h3)
  · rw [i_0] at h
    first | exact (i_lt hx hy).mp h | exact (i_lt hy hx).mp h | exact fun q => h ((i_lt hx hy).mpr q)
  · rw [i_0] at h
    first | exact fun q => h ((i_lt hx hy).mpr q) | exact fun q => h ((i_lt hy hx).mpr q) | exact fun q => h (fun p => q ((i_lt hx hy).mp p)) | exact fun q => q ((i_lt hx hy).mp h)
theorem g_icmp_ge {E X own cc nL ret pc L st w k n} {x y : Int} {off : Int} {tgt : Nat} (C : CX E X own cc nL ret) (d : decode cc pc = .ok (.if_icmp .ge off, 3)) (ht : (pc : Int) + off = (tgt : Int)) (hx : -2147483648 ≤ x ∧ x < 2147483648) (hy : -2147483648 ≤ y ∧ y < 2147483648)
    (kt : y ≤ x → G E X nL tgt L st w k n) (kf : ¬ (y ≤ x) → G E X nL (pc + 3) L st w k n) : G E X nL pc L (iI y :: iI x :: st) w k n := by
  intro H locs ls h1 h2 h3
  refine lv_icmp_ge C.ex C.co d ht (fun h => kt ?_ H locs ls h1 h2 h3) (fun h => kf ?_ H locs ls h1 h2 h3)
  · first | exact (i_le hx hy).mp h | exact (i_le hy hx).mp h | exact fun q => h ((i_le hx hy).mpr q)
  · first | exact fun q => h ((i_le hx hy).mpr q) | exact fun q => h ((i_le hy hx).mpr q) | exact fun q => h (fun p => q ((i_le hx hy).mp p)) | exact fun q => q ((i_le hx hy).mp h)
theorem g_if_ge {E X own cc nL ret pc L st w k n} {x : Int} {off : Int} {tgt : Nat} (C : CX E X own cc nL ret) (d : decode cc pc = .ok (.ifCond .ge off, 3)) (ht : (pc : Int) + off = (tgt : Int)) (hx : -2147483648 ≤ x ∧ x < 2147483648)
    (kt : 0 ≤ x → G E X nL tgt L st w k n) (kf : ¬ (0 ≤ x) → G E X nL (pc + 3) L st w k n) : G E X nL pc L (iI x :: st) w k n := by
  intro H locs ls h1 h2 h3
  have hy : (-2147483648 : Int) ≤ 0 ∧ (0 : Int) < 2147483648 := by omega
  refine lv_if_ge C.ex C.co d ht (fun h => kt ?_ H locs ls h1 h2 h3) (fun h => kf ?_ H locs ls h1 h2 h3)
  · rw [i_0] at h
    first | exact (i_le hx hy).mp h | exact (i_le hy hx).mp h | exact fun q => h ((i_le hx hy).mpr q)
  · rw [i_0] at h
    first | exact fun q => h ((i_le hx hy).mpr q) | exact fun q => h ((i_le hy hx).mpr q) | exact fun q => h (fun p => q ((i_le hx hy).mp p)) | exact fun q => q ((i_le hx hy).mp h)
theorem g_icmp_gt {E X own cc nL ret pc L st w k n} {x y : Int} {off : Int} {tgt : Nat} (C : CX E X own cc nL ret) (d : decode cc pc = .ok (.if_icmp .gt off, 3)) (ht : (pc : Int) + off = (tgt : Int)) (hx : -2147483648 ≤ x ∧ x < 2147483648) (hy : -2147483648 ≤ y ∧ y < 2147483648)
    (kt : y < x → G E X nL tgt L st w k n) (kf : ¬ (y < x) → G E X nL (pc + 3) L st w k n) : G E X nL pc L (iI y :: iI x :: st) w k n := by
  intro H locs ls h1 h2 h3
  refine lv_icmp_gt C.ex C.co d ht (fun h => kt ?_ H locs ls h1 h2 h3) (fun h => kf ?_ H locs ls h1 h2 h3)
  · first | exact (i_lt hx hy).mp h | exact (i_lt hy hx).mp h | exact fun q => h ((i_lt hx hy).mpr q)
  · first | exact fun q => h ((i_lt hx hy).mpr q) | exact fun q => h ((i_lt hy hx).mpr q) | exact fun q => h (fun p => q ((i_lt hx hy).mp p)) | exact fun q => q ((i_lt hx hy).mp h)
theorem g_if_gt {E X own cc nL ret pc L st w k n} {x : Int} {off : Int} {tgt : Nat} (C : CX E X own cc nL ret) (d : decode cc pc = .ok (.ifCond .gt off, 3)) (ht : (pc : Int) + off = (tgt : Int)) (hx : -2147483648 ≤ x ∧ x < 2147483648)
    (kt : 0 < x → G E X nL tgt L st w k n) (kf : ¬ (0 < x) → G E X nL (pc + 3) L st w k n) : G E X nL pc L (iI x :: st) w k n := by
  intro H locs ls h1 h2 h3
  have hy : (-2147483648 : Int) ≤ 0 ∧ (0 : Int) < 2147483648 := by omega
  refine lv_if_gt C.ex C.co d ht (fun h => kt ?_ H locs ls h1 h2 h3) (fun h => kf ?_ H locs ls h1 h2 h3)
  · rw [i_0] at h
    first | exact (i_lt hx hy).mp h | exact (i_lt hy hx).mp h | exact fun q => h ((i_lt hx hy).mpr q)
  · rw [i_0] at h
    first | exact fun q => h ((i_lt hx hy).mpr q) | exact fun q => h ((i_lt hy hx).mpr q) | exact fun q => h (fun p => q ((i_lt hx hy).mp p)) | exact fun q => q ((i_lt hx hy).mp h)
theorem g_icmp_le {E X own cc nL ret pc L st w k n} {x y : Int} {off : Int} {tgt : Nat} (C : CX E X own cc nL ret) (d : decode cc pc = .ok (.if_icmp .le off, 3)) (ht : (pc : Int) + off = (tgt : Int)) (hx : -2147483648 ≤ x ∧ x < 2147483648) (hy : -2147483648 ≤ y ∧ y < 2147483648)
    (kt : x ≤ y → G E X nL tgt L st w k n) (kf : ¬ (x ≤ y) → G E X nL (pc + 3) L st w k n) : G E X nL pc L (iI y :: iI x :: st) w k n := by
  intro H locs ls h1 h2 h3
  refine lv_icmp_le C.ex C.co d ht (fun h => kt ?_ H locs ls h1 h2 h3) (fun h => kf ?_ H locs ls h1 h2 h3)
  · first | exact (i_le hx hy).mp h | exact (i_le hy hx).mp h | exact fun q => h ((i_le hx hy).mpr q)
  · first | exact fun q => h ((i_le hx hy).mpr q) | exact fun q => h ((i_le hy hx).mpr q) | exact fun q => h (fun p => q ((i_le hx hy).mp p)) | exact fun q => q ((i_le hx hy).mp h)
theorem g_if_le {E X own cc nL ret pc L st w k n} {x : Int} {off : Int} {tgt : Nat} (C : CX E X own cc nL ret) (d : decode cc pc = .ok (.ifCond .le off, 3)) (ht : (pc : Int) + off = (tgt : Int)) (hx : -2147483648 ≤ x ∧ x < 2147483648)
    (kt : x ≤ 0 → G E X nL tgt L st w k n) (kf : ¬ (x ≤ 0) → G E X nL (pc + 3) L st w k n) : G E X nL pc L (iI x :: st) w k n := by
  intro H locs ls h1 h2 h3
  have hy : (-2147483648 : Int) ≤ 0 ∧ (0 : Int) < 2147483648 := by omega
  refine lv_if_le C.ex C.co d ht (fun h => kt ?_ H locs ls h1 h2 h3) (fun h => kf ?_ H locs ls h1 h2 h3)
  · rw [i_0] at h
    first | exact (i_le hx hy).mp h | exact (i_le hy hx).mp h | exact fun q => h ((i_le hx hy).mpr q)
  · rw [i_0] at h
    first | exact fun q => h ((i_le hx hy).mpr q) | exact fun q => h ((i_le hy hx).mpr q) | exact fun q => h (fun p => q ((i_le hx hy).mp p)) | exact fun q => q ((i_le hx hy).mp h)
theorem g_goto {E X own cc nL ret pc L st w k n} {off : Int} {tgt : Nat} (C : CX E X own cc nL ret) (d : decode cc pc = .ok (.goto off, 3)) (ht : (pc : Int) + off = (tgt : Int)) (kk : G E X nL tgt L st w k n) : G E X nL pc L st w k n :=
  fun H locs ls h1 h2 h3 => lv_goto C.ex C.co d ht (kk H locs ls h1 h2 h3)
