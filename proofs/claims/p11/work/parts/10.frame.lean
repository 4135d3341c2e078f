def bI (p : Prop) [Decidable p] : Int := if p then 1 else 0
set_option maxRecDepth 4000
/-! fields -/
theorem wOk.P {E : GE} {w : Wd} {H : Heap} (h : wOk E w H) {a : Nat} {b : Bool} {e : Ent} (ha : w.2 a = some (b, e)) : va_P E.1 clz [(a, conc E e)] H := by
  intro k q hk
  cases k with
  | zero => cases hk; exact (h.2 a b e ha).1
  | succ k => cases hk
theorem va_S.p2 {A : Nat → Prop} {H0 H H1 : Heap} {locs : List Loc} {a k : Nat} (h : va_S A H0 H locs) (z : H1.size = H.size) (oq : ∀ q : Nat, q ≠ a → H1[q]? = H[q]?) (ha : A a) : va_S A H0 H1 (locs ++ [⟨a, k⟩]) := h.put z oq ha
theorem va_S.p1 {A : Nat → Prop} {H0 H H1 : Heap} {locs : List Loc} (h : va_S A H0 H locs) (z : H1.size = H.size + 1) (oq : ∀ q : Nat, q < H.size → H1[q]? = H[q]?) : va_S A H0 H1 locs :=
  ⟨Nat.le_trans h.1 (by omega), fun x h1 h2 => (oq x (Nat.lt_of_lt_of_le h1 h.1)).trans (h.2.1 x h1 h2), h.2.2⟩
theorem g_get {E X own cc nL ret pc L st w k n} (C : CX E X own cc nL ret) {ci N : Nat} {Cn : String} {T : u_T} (hc : clz[ci]? = some (Cn, T, N)) (hin : ∀ w ∈ u_ws Cn T N, w ∈ GT) (j : Nat) (hj : j < N) {index : Nat} {ref : String} (fl : Cond.fieldLink own index ref (T j).2.1 (T j).2.2.1 ∈ GT) (hs : ref = (T j).1)
    {a : Nat} {b : Bool} {fs : List Value} {v : Value} (h : w.2 a = some (b, eO ci fs)) (hv : fs[j]? = some v) (d : decode cc pc = .ok (.getfield index, 3))
    (kk : G E X nL (pc + 3) L (v :: st) w k n) : G E X nL pc L (.ref a :: st) w k n :=
  fun H locs ls h1 h2 h3 => va_get (ws := [(a, .inr (ci, fs))]) C.ex C.co C.ts hin C.ow C.kt.1 (h1.P h) 0 rfl hc j hj (C.ts _ fl) (fun x hx => by rw [hs]; exact hx) hv d (kk H locs ls h1 h2 h3)
theorem g_put {E X own cc nL ret pc L st w k n} (C : CX E X own cc nL ret) {ci N : Nat} {Cn : String} {T : u_T} (hc : clz[ci]? = some (Cn, T, N)) (hin : ∀ w ∈ u_ws Cn T N, w ∈ GT) (ty0 : Nat → FieldType) (hty : ∀ k, k < N → parseFieldDescriptor (T k).2.2.1 = some (ty0 k)) (hnm : ∀ a, a < N → ∀ b, b < N → a ≠ b → (T a).2.1 ≠ (T b).2.1)
    (j : Nat) (hj : j < N) {index : Nat} {ref : String} (fl : Cond.fieldLink own index ref (T j).2.1 (T j).2.2.1 ∈ GT) (hs : ref = (T j).1) (hfin : (T j).2.2.2 = false)
    {a : Nat} {fs : List Value} {v : Value} (h : w.2 a = some (true, eO ci fs)) (hl : j < fs.length) (hn : narrow (ty0 j) v = v) (hf : fits (ty0 j) v = true) (d : decode cc pc = .ok (.putfield index, 3))
    (kk : G E X nL (pc + 3) L st (wset w a (true, eO ci (fs.set j v))) k n) : G E X nL pc L (v :: .ref a :: st) w k n := by
  intro H locs ls h1 h2 h3
  have hap := va_apart (own := own) C.ts hin ty0 hty hnm C.kt.1 hc
  obtain ⟨g1, gb⟩ := h1.2 a true _ h
  obtain ⟨r, g2, cell, q1, q2, q3, q4⟩ := g1
  have hr : r = (Cn, T, N) := Option.some.inj (g2.symm.trans hc)
  subst hr
  obtain ⟨hS, hfc, kC, hkC, hkind⟩ := C.kt.1.1 ci _ hc
  obtain ⟨cf, kf, fi, f, hi, hsl⟩ := hS j hj
  have hlay := C.ts _ (hin _ (u_in_lay hj))
  unfold u_lay at hlay
  rw [if_neg (by rw [hfin]; decide)] at hlay
  have hst := (u_facts hfc hkC (u_lays C.ts hin hj) hi).1
  have h6 := u_store hfc hkC hkind hlay hi (hty j hj) hn hf
  refine W.putK C.ex C.co (f := f) ⟨C.ow, C.ts _ fl, ⟨_, _, _, by rw [hs]; exact hi⟩, hst⟩ (by rw [q2]; exact h6) q1 q3 (by rw [hsl]; exact k2_hasslot (q4 j hj)) rfl rfl d fun H' e1 e2 e3 => ?_
  rw [hsl] at e1 ⊢
  exact kk H' _ ls (h1.set ⟨_, hc, t_OB.to (V := updV (vp_V fs) j v) ⟨_, e1, q2, q3, t_set q4 hap hj v⟩ (fun i _ => vp_updV_set hl v i)⟩ (gb rfl) e2 e3) (h2.put e2 e3 (gb rfl)) h3
theorem g_putF {E X own cc nL ret pc L st w k n} (C : CX E X own cc nL ret) {ci N : Nat} {Cn : String} {T : u_T} (hc : clz[ci]? = some (Cn, T, N)) (hin : ∀ w ∈ u_ws Cn T N, w ∈ GT) (ty0 : Nat → FieldType) (hty : ∀ k, k < N → parseFieldDescriptor (T k).2.2.1 = some (ty0 k)) (hnm : ∀ a, a < N → ∀ b, b < N → a ≠ b → (T a).2.1 ≠ (T b).2.1)
    (j : Nat) (hj : j < N) {index : Nat} {ref : String} (fl : Cond.fieldLink own index ref (T j).2.1 (T j).2.2.1 ∈ GT) (hs : ref = (T j).1) (hfin : (T j).2.2.2 = true) (hin2 : (xmeth X).name = "<init>") (hdecl : (T j).1 = own)
    {a : Nat} {fs : List Value} {v : Value} (h : w.2 a = some (true, eO ci fs)) (hl : j < fs.length) (hn : narrow (ty0 j) v = v) (hf : fits (ty0 j) v = true) (d : decode cc pc = .ok (.putfield index, 3))
    (kk : G E X nL (pc + 3) L st (wset w a (true, eO ci (fs.set j v))) k n) : G E X nL pc L (v :: .ref a :: st) w k n := by
  intro H locs ls h1 h2 h3
  have hap := va_apart (own := own) C.ts hin ty0 hty hnm C.kt.1 hc
  obtain ⟨g1, gb⟩ := h1.2 a true _ h
  obtain ⟨r, g2, cell, q1, q2, q3, q4⟩ := g1
  have hr : r = (Cn, T, N) := Option.some.inj (g2.symm.trans hc)
  subst hr
  obtain ⟨hS, hfc, kC, hkC, hkind⟩ := C.kt.1.1 ci _ hc
  obtain ⟨cf, kf, fi, f, hi, hsl⟩ := hS j hj
  have hlay := C.ts _ (hin _ (u_in_lay hj))
  unfold u_lay at hlay
  rw [if_pos hfin] at hlay
  have hst := (u_facts hfc hkC (u_lays C.ts hin hj) hi).1
  have hcf : (xm X).cls = cf := by
    obtain ⟨_, _, c', _, _, _, -, -, hf', -, -, -, hown2, -⟩ := Cond.laysFinal_spec hlay
    have e1 : c' = cf := by have := hi.symm.trans hf'; simp at this; exact this.1.symm
    rw [hdecl] at hown2
    rw [← e1]; exact Option.some.inj (C.ow.symm.trans hown2)
  have h6 := u_fits hfc hkC hkind (Or.inr hlay) hi (hty j hj) hn hf
  refine W.putFinK C.ex C.co C.ow (C.ts _ fl) (by rw [hs]; exact hi) hst hcf hin2 (by rw [q2]; exact h6) q1 q3 (by rw [hsl]; exact k2_hasslot (q4 j hj)) rfl rfl d fun H' e1 e2 e3 => ?_
  rw [hsl] at e1 ⊢
  exact kk H' _ ls (h1.set ⟨_, hc, t_OB.to (V := updV (vp_V fs) j v) ⟨_, e1, q2, q3, t_set q4 hap hj v⟩ (fun i _ => vp_updV_set hl v i)⟩ (gb rfl) e2 e3) (h2.put e2 e3 (gb rfl)) h3
theorem g_new {E X own cc nL ret pc L st w k n} (C : CX E X own cc nL ret) {ci N : Nat} {Cn : String} {T : u_T} (hc : clz[ci]? = some (Cn, T, N)) (hin : ∀ w ∈ u_ws Cn T N, w ∈ GT) (ty0 : Nat → FieldType) (hty : ∀ k, k < N → parseFieldDescriptor (T k).2.2.1 = some (ty0 k))
    {index : Nat} (kl : Cond.classLink own index Cn ∈ GT) (ib : Cond.instantiable Cn N ∈ GT) (ini : Cond.initialized Cn ∈ GT) {fs : List Value} (hfs : ∀ j, j < N → defaultValue (ty0 j) = vp_V fs j) (hk : k + 1 ≤ (xR X).cells ∧ n + N ≤ (xR X).slots) (d : decode cc pc = .ok (.new index, 3))
    (kk : G E X nL (pc + 3) L (.ref w.1 :: st) (wpush w (true, eO ci fs)) (k + 1) (n + N)) : G E X nL pc L st w k n := by
  intro H locs ls h1 h2 h3
  have hKn := C.kt.1.1 ci _ hc
  refine W.newcK C.ex C.co C.ow (C.ts _ kl) (C.ts _ ib) (C.ts _ ini) rfl d hk.1 hk.2 hKn.2.1 h1.1 fun H1 kC hkC e1 z1 o1 => ?_
  have hb : E.2.2 ≤ w.1 := by rw [← h1.1]; exact Nat.le_trans C.bs h2.1
  rw [← h1.1] at z1 o1
  exact kk H1 locs ls (h1.push ⟨_, hc, (u_born ty0 C.ts hin hKn hkC e1 hty).to hfs⟩ hb z1 o1) (h2.p1 z1 o1) h3
/-! arrays -/
theorem kt_i {E : GE} {U : State} (h : KT E U) (i : Nat) {q : ClassId × FieldType} (hi : (tysOf E.2.1)[i]? = some q) : ArrOfT U q.1 q.2 ∧ va_RA U q.1 q.2 := h.1.2 i q hi
theorem g_iaload {E X own cc nL ret pc L st w k n} (C : CX E X own cc nL ret) {a N : Nat} {b : Bool} {f : Nat → Int} {z : Int} (h : w.2 a = some (b, eI N f)) (hz : 0 ≤ z ∧ z < N ∧ z < 2147483648) (d : decode cc pc = .ok (.iaload, 1))
    (kk : G E X nL (pc + 1) L (iI (f z.toNat) :: st) w k n) : G E X nL pc L (iI z :: .ref a :: st) w k n := by
  intro H locs ls h1 h2 h3
  refine va_iald (ws := [(a, .inl (E.2.1 0, N, .inl (fun j => Int32.ofInt (f j))))]) C.ex C.co C.kt.1 (h1.P h) 0 0 rfl rfl (i_in hz.1 hz.2.1 hz.2.2) d ?_
  rw [i_nat hz.1 hz.2.2]
  exact kk H locs ls h1 h2 h3
theorem g_baload {E X own cc nL ret pc L st w k n} (C : CX E X own cc nL ret) {a N : Nat} {b : Bool} {f : Nat → Int} {z : Int} (h : w.2 a = some (b, eB N f)) (hz : 0 ≤ z ∧ z < N ∧ z < 2147483648) (d : decode cc pc = .ok (.baload, 1))
    (kk : G E X nL (pc + 1) L (iI (f z.toNat) :: st) w k n) : G E X nL pc L (iI z :: .ref a :: st) w k n := by
  intro H locs ls h1 h2 h3
  refine va_bald (ws := [(a, .inl (E.2.1 1, N, .inl (fun j => Int32.ofInt (f j))))]) C.ex C.co C.kt.1 (h1.P h) 0 1 rfl rfl (i_in hz.1 hz.2.1 hz.2.2) d ?_
  rw [i_nat hz.1 hz.2.2]
  exact kk H locs ls h1 h2 h3
theorem g_aaload {E X own cc nL ret pc L st w k n} (C : CX E X own cc nL ret) {a i N q : Nat} {b : Bool} {f : Nat → Option Nat} {z : Int} {t : FieldType} (ht : (tysOf E.2.1)[i]? = some (E.2.1 i, t)) (hr : t.isReference = true) (h : w.2 a = some (b, eR i N f)) (hz : 0 ≤ z ∧ z < N ∧ z < 2147483648) (hq : f z.toNat = some q) (d : decode cc pc = .ok (.aaload, 1))
    (kk : G E X nL (pc + 1) L (.ref q :: st) w k n) : G E X nL pc L (iI z :: .ref a :: st) w k n := by
  intro H locs ls h1 h2 h3
  have hin := i_in hz.1 hz.2.1 hz.2.2
  have hlt : z.toNat < N := by omega
  refine W.aald (v := va_rf (f z.toNat)) (ty := t) C.ex C.co ((h1.P h) 0 _ rfl) ((kt_i C.kt i ht).1 N (fun j => va_rf (f j))) hr (fun q => by cases q) (by show ¬ (_ < 0 ∨ (arrV _ _ _).slots.size ≤ _); rw [arrV_size]; exact hin) (by show (arrV _ _ _).slots[_]? = _; rw [i_nat hz.1 hz.2.2, arrV_read _ _ hlt]) rfl rfl d ?_
  rw [hq]
  exact kk H locs ls h1 h2 h3
theorem g_iastore {E X own cc nL ret pc L st w k n} (C : CX E X own cc nL ret) {a N : Nat} {f : Nat → Int} {z x : Int} (h : w.2 a = some (true, eI N f)) (hz : 0 ≤ z ∧ z < N ∧ z < 2147483648) (d : decode cc pc = .ok (.iastore, 1))
    (kk : G E X nL (pc + 1) L st (wset w a (true, eI N (iup f z.toNat x))) k n) : G E X nL pc L (iI x :: iI z :: .ref a :: st) w k n := by
  intro H locs ls h1 h2 h3
  obtain ⟨g1, gb⟩ := h1.2 a true _ h
  refine W.iast C.ex C.co g1 ((kt_i C.kt 0 rfl).1 N (fun j => .int (Int32.ofInt (f j)))) (fun q => by cases q) (by show ¬ (_ < 0 ∨ (arrV _ _ _).slots.size ≤ _); rw [arrV_size]; exact i_in hz.1 hz.2.1 hz.2.2) rfl rfl d fun H1 e z1 oq => ?_
  refine kk H1 _ ls (h1.set ?_ (gb rfl) z1 oq) (h2.put z1 oq (gb rfl)) h3
  show H1[a]? = some (vp_cell _ _)
  rw [e]
  rw [vp_cell_i, vp_cell_i, arrV_store, i_nat hz.1 hz.2.2]
  congr 2
  funext q
  by_cases hq : q = z.toNat
  · subst hq
    simp [updV, iup]
  · simp [updV, iup, hq]
theorem g_bastore {E X own cc nL ret pc L st w k n} (C : CX E X own cc nL ret) {a N : Nat} {f : Nat → Int} {z x y : Int} (h : w.2 a = some (true, eB N f)) (hz : 0 ≤ z ∧ z < N ∧ z < 2147483648) (hx : vp_nar .byte (Int32.ofInt x) = Int32.ofInt y) (d : decode cc pc = .ok (.bastore, 1))
    (kk : G E X nL (pc + 1) L st (wset w a (true, eB N (iup f z.toNat y))) k n) : G E X nL pc L (iI x :: iI z :: .ref a :: st) w k n := by
  intro H locs ls h1 h2 h3
  obtain ⟨g1, gb⟩ := h1.2 a true _ h
  refine W.bast C.ex C.co g1 ((kt_i C.kt 1 rfl).1 N (fun j => .int (Int32.ofInt (f j)))) (fun q => by cases q) (by show ¬ (_ < 0 ∨ (arrV _ _ _).slots.size ≤ _); rw [arrV_size]; exact i_in hz.1 hz.2.1 hz.2.2) rfl rfl d fun H1 e z1 oq => ?_
  refine kk H1 _ ls (h1.set ?_ (gb rfl) z1 oq) (h2.put z1 oq (gb rfl)) h3
  show H1[a]? = some (vp_cell _ _)
  rw [e]
  rw [vp_cell_i, vp_cell_i, arrV_store, i_nat hz.1 hz.2.2]
  congr 2
  funext q
  by_cases hq : q = z.toNat
  · subst hq
    simp only [updV, iup, if_pos]
    rw [← hx]
    try simp [vp_nar]
    try rfl
  · simp [updV, iup, hq]
theorem g_alen {E X own cc nL ret pc L st w k n} (C : CX E X own cc nL ret) {a N : Nat} {b : Bool} {e : Ent} (h : w.2 a = some (b, e)) (hN : (∃ f, e = eI N f) ∨ (∃ f, e = eB N f) ∨ (∃ i f q, e = eR i N f ∧ (tysOf E.2.1)[i]? = some (E.2.1 i, q))) (d : decode cc pc = .ok (.arraylength, 1))
    (kk : G E X nL (pc + 1) L (iI N :: st) w k n) : G E X nL pc L (.ref a :: st) w k n := by
  intro H locs ls h1 h2 h3
  have hv : Int32.ofNat N = Int32.ofInt N := Int32.ofInt_eq_ofNat.symm
  rcases hN with ⟨f, rfl⟩ | ⟨f, rfl⟩ | ⟨i, f, q, rfl, hi⟩
  · exact va_alen (x := (N, .inl (fun j => Int32.ofInt (f j)))) C.ex C.co C.kt.1 (h1.P h) 0 0 rfl rfl hv d (kk H locs ls h1 h2 h3)
  · exact va_alen (x := (N, .inl (fun j => Int32.ofInt (f j)))) C.ex C.co C.kt.1 (h1.P h) 0 1 rfl rfl hv d (kk H locs ls h1 h2 h3)
  · exact va_alen (x := (N, .inr (.inr (.inr (.inr f))))) C.ex C.co C.kt.1 (h1.P h) 0 i rfl hi hv d (kk H locs ls h1 h2 h3)
theorem g_newI {E X own cc nL ret pc L st w k n} (C : CX E X own cc nL ret) (wd : Cond.arrayClass .int ∈ GT) {z : Int} {N : Nat} (hz : z = N) (hN : N ≤ 1000000) (hk : k + 1 ≤ (xR X).cells ∧ n + N ≤ (xR X).slots) (d : decode cc pc = .ok (.newarray .int, 2))
    (kk : G E X nL (pc + 2) L (.ref w.1 :: st) (wpush w (true, eI N (fun _ => 0))) (k + 1) (n + N)) : G E X nL pc L (iI z :: st) w k n := by
  intro H locs ls h1 h2 h3
  subst hz
  refine va_newaK (atype := .int) C.ex C.co (C.ts _ wd) rfl d rfl (by rw [i_0, i_lt (by omega) (by omega)]; omega) (N := N) (by rw [i_nat (by omega) (by omega)]; rfl) (by show N * 4 ≤ _; omega) hk.1 hk.2 h1.1 fun H1 cA e1 z1 o1 hAr hNm => ?_
  have hb : E.2.2 ≤ w.1 := by rw [← h1.1]; exact Nat.le_trans C.bs h2.1
  rw [← h1.1] at z1 o1
  have hc : cA = E.2.1 0 := Option.some.inj (hNm.symm.trans (kt_i C.kt 0 rfl).2)
  subst hc
  exact kk H1 locs ls (h1.push e1 hb z1 o1) (h2.p1 z1 o1) h3
theorem g_newB {E X own cc nL ret pc L st w k n} (C : CX E X own cc nL ret) (wd : Cond.arrayClass .byte ∈ GT) {z : Int} {N : Nat} (hz : z = N) (hN : N ≤ 1000000) (hk : k + 1 ≤ (xR X).cells ∧ n + N ≤ (xR X).slots) (d : decode cc pc = .ok (.newarray .byte, 2))
    (kk : G E X nL (pc + 2) L (.ref w.1 :: st) (wpush w (true, eB N (fun _ => 0))) (k + 1) (n + N)) : G E X nL pc L (iI z :: st) w k n := by
  intro H locs ls h1 h2 h3
  subst hz
  refine va_newaK (atype := .byte) C.ex C.co (C.ts _ wd) rfl d rfl (by rw [i_0, i_lt (by omega) (by omega)]; omega) (N := N) (by rw [i_nat (by omega) (by omega)]; rfl) (by show N * 1 ≤ _; omega) hk.1 hk.2 h1.1 fun H1 cA e1 z1 o1 hAr hNm => ?_
  have hb : E.2.2 ≤ w.1 := by rw [← h1.1]; exact Nat.le_trans C.bs h2.1
  rw [← h1.1] at z1 o1
  have hc : cA = E.2.1 1 := Option.some.inj (hNm.symm.trans (kt_i C.kt 1 rfl).2)
  subst hc
  exact kk H1 locs ls (h1.push e1 hb z1 o1) (h2.p1 z1 o1) h3
/-! contracts -/
abbrev rmD (dep mc ms : Nat) : Room := { frames := dep, cells := mc, slots := ms, locals := 64 * dep }
def slV : Slot → Option Value
  | .val v => some v
  | _ => none
def lA (av : List Value) (nL : Nat) : List (Option Value) := (lg_sl av ++ List.replicate (nL - (lg_sl av).length) Slot.unset).map slV
def Qs (E : GE) (Post : Option Value → Wd → Prop) : Array Value → State → Outcome → State → Prop := fun _ st oc t => (∃ v w', oc = .returned v ∧ Post v w' ∧ wOk E w' t.heap) ∧ va_F (gA E) st t
def Sp (E : GE) (l : Launch) (y : MethodName) (cc : ByteArray) (maxL : Nat) (ret : Option FieldType) (dep mc ms : Nat) (av : List Value) (w : Wd) (Post : Option Value → Wd → Prop) : Prop :=
  Met l y (Cond.code y cc maxL ret :: GT) (rmD dep mc ms) (va_Pc av (fun U => wOk E w U.heap ∧ KT E U ∧ E.2.2 ≤ U.heap.size)) (Qs E Post) mc ms (gA E)
def RQ (E : GE) (X : XT) (mc ms : Nat) (Post : Option Value → Wd → Prop) : Prop := xQ X = MQ (xbelow X) (Qs E Post) (xargs X) (xs X) mc ms (gA E)
theorem KT.moved {E : GE} {u U : State} (hvm : u.vm.Alike U.vm) (h : KT E u) : KT E U := by
  obtain ⟨h1, ⟨kA, h2, h3⟩, h4, h5, h6, h7, h8, h9, h10⟩ := h
  refine ⟨h1.moved hvm, ?_, ?_, h5.moved hvm, h6.moved hvm, h7.moved hvm, h8.moved hvm, va_tabs rfl (rfl : (u.setVm U.vm).vm = U.vm) (by rw [Cond.castable_setVm hvm]; exact h9), va_tabs rfl (rfl : (u.setVm U.vm).vm = U.vm) (by rw [Cond.castable_setVm hvm]; exact h10)⟩
  · obtain ⟨k', hk', he⟩ := hvm.2.2 _ _ h2
    exact ⟨k', hk', by rw [he]; exact h3⟩
  · obtain ⟨comp, c, k, g1, g2, g3, g4, g5⟩ := arrayOverA_spec h4
    obtain ⟨k', hk', he⟩ := hvm.2.2 _ _ g3
    have hi : (U.vm.classes.findIdx? fun (x : Class) => match x.kind with | .array component _ => component == comp | _ => false) = some c := by
      rw [hvm.findIdx?_eq _ (fun _ => rfl)]
      exact g2
    have hkind : k'.kind = .array comp (.array .int) := by rw [he]; exact g4
    have f1 : U.vm.findClass (FieldType.array .int).toString = some comp := by rw [hvm.findClass]; exact g1
    have f2 : U.vm.findClass ("[" ++ (FieldType.array .int).toString) = some c := by rw [hvm.findClass]; exact g5
    unfold Cond.before Cond.holds
    simp only [Cond.value]
    rw [f1, Option.bind_some]
    refine (congrArg (fun o : Option Nat => (o.bind (fun c => (U.vm.classes[c]?).map fun (k : Class) => match k.kind with | .array _ ty => decide (ty = FieldType.array .int) && decide (U.vm.findClass ("[" ++ (FieldType.array .int).toString) = some c) | _ => false) == some true)) hi).trans ?_
    simp [hk', hkind, f2]
theorem sp_intro {E : GE} {l : Launch} {y : MethodName} {cc : ByteArray} {maxL : Nat} {ret : Option FieldType} {dep mc ms : Nat} {av : List Value} {w : Wd} {Post : Option Value → Wd → Prop} (L : List (Option Value)) (hL : lA av maxL = L) (hle : (lg_sl av).length ≤ maxL) (hy : plainName y.cls = true)
    (body : ∀ X : XT, CX E X y.cls cc maxL ret → ((xR X).frames = dep ∧ (xR X).locals = 64 * dep ∧ (xR X).cells = mc ∧ (xR X).slots = ms) → xl X = l → (xmeth X).name = y.name → RQ E X mc ms Post → G E X maxL 0 L [] w 0 0) : Sp E l y cc maxL ret dep mc ms av w Post := by
  refine Met.ofW (cc := cc) (maxL := maxL) (ret := ret) hy rfl ?_
  intro p e s m args below meth c s₁ B hml hv
  obtain ⟨rfl, hw, hK, hb⟩ := hv
  have hts := atoms_spec (ws := Cond.code y cc maxL ret :: GT) B.pre
  have b := body (p, l, e, rmD dep mc ms, s, m, av.toArray, below, meth, c, MQ below (Qs E Post) av.toArray s mc ms (gA E))
    ⟨B.exec, B.bytes, hml, B.returns, B.notSynchronized, findClass_of_methodNamed B.named, fun w h => hts w (List.mem_cons_of_mem _ h), hK, hb⟩ ⟨rfl, rfl, rfl, rfl⟩ rfl (name_of_methodNamed B.named B.method).1 rfl
  rw [lg_entry_eq]
  refine b s.heap [] _ hw va_S.rf ⟨(lv_entry av hle).1, (lv_entry av hle).2.1, fun i v h => ?_⟩
  subst hL
  unfold lA at h
  rw [List.getElem?_map] at h
  cases hx : (lg_sl av ++ List.replicate (maxL - (lg_sl av).length) Slot.unset)[i]? with
  | none => rw [hx] at h; cases h
  | some sl =>
    rw [hx] at h
    cases sl with
    | val u =>
      simp [slV] at h
      subst h
      rw [List.getElem?_toArray]
      exact hx
    | _ => simp [slV] at h
theorem q_S {E : GE} {X : XT} {H : Heap} {locs : List Loc} (h : va_S (gA E) (xs X).heap H locs) : ∀ q ∈ locs, gA E q.base := h.2.2
theorem g_ireturn {E X own cc nL pc L w k n mc ms Post} (C : CX E X own cc nL (some .int)) (hQ : RQ E X mc ms Post) {z : Int} (d : decode cc pc = .ok (.ireturn, 1)) (hk : k ≤ mc) (hn : n ≤ ms) (hp : Post (some (iI z)) w) : G E X nL pc L [iI z] w k n := by
  intro H locs ls h1 h2 h3
  refine W.widen hk hn ?_
  show W _ _ _ _ _ _ _ _ _ _ _ _ _ _ (xQ X) _
  rw [hQ]
  exact W.iret C.ex C.co C.rt (fun t ht hW => ⟨⟨_, w, rfl, hp, by rw [ht]; exact h1⟩, h2.F ht⟩) (q_S h2) d (hlocks := C.lk)
theorem g_zreturn {E X own cc nL pc L w k n mc ms Post} {ty : FieldType} (C : CX E X own cc nL (some ty)) (hQ : RQ E X mc ms Post) {z : Int} (d : decode cc pc = .ok (.ireturn, 1)) (hty : narrow ty (iI z) = iI z) (hk : k ≤ mc) (hn : n ≤ ms) (hp : Post (some (iI z)) w) : G E X nL pc L [iI z] w k n := by
  intro H locs ls h1 h2 h3
  refine W.widen hk hn ?_
  show W _ _ _ _ _ _ _ _ _ _ _ _ _ _ (xQ X) _
  rw [hQ]
  exact W.zret C.ex C.co C.rt hty (fun t ht hW => ⟨⟨_, w, rfl, hp, by rw [ht]; exact h1⟩, h2.F ht⟩) (q_S h2) d (hlocks := C.lk)
theorem g_lreturn {E X own cc nL pc L w k n mc ms Post} (C : CX E X own cc nL (some .long)) (hQ : RQ E X mc ms Post) {z : Int} (d : decode cc pc = .ok (.lreturn, 1)) (hk : k ≤ mc) (hn : n ≤ ms) (hp : Post (some (jJ z)) w) : G E X nL pc L [jJ z] w k n := by
  intro H locs ls h1 h2 h3
  refine W.widen hk hn ?_
  show W _ _ _ _ _ _ _ _ _ _ _ _ _ _ (xQ X) _
  rw [hQ]
  exact W.lret C.ex C.co C.rt (fun t ht hW => ⟨⟨_, w, rfl, hp, by rw [ht]; exact h1⟩, h2.F ht⟩) (q_S h2) d (hlocks := C.lk)
theorem g_return {E X own cc nL pc L w k n mc ms Post} (C : CX E X own cc nL none) (hQ : RQ E X mc ms Post) (d : decode cc pc = .ok (.return_, 1)) (hk : k ≤ mc) (hn : n ≤ ms) (hp : Post none w) : G E X nL pc L [] w k n := by
  intro H locs ls h1 h2 h3
  refine W.widen hk hn ?_
  show W _ _ _ _ _ _ _ _ _ _ _ _ _ _ (xQ X) _
  rw [hQ]
  exact W.vret C.ex C.co C.rt (fun t ht hW => ⟨⟨_, w, rfl, hp, by rw [ht]; exact h1⟩, h2.F ht⟩) (q_S h2) d (hlocks := C.lk)
theorem g_areturn {E X own cc nL pc L w k n mc ms Post} {rt : FieldType} (C : CX E X own cc nL (some rt)) (hrt : (∃ n, rt = .object n) ∨ ∃ t, rt = .array t) (hQ : RQ E X mc ms Post) {v : Value} (hv : v = .null ∨ ∃ a, v = .ref a) (d : decode cc pc = .ok (.areturn, 1)) (hk : k ≤ mc) (hn : n ≤ ms) (hp : Post (some v) w) : G E X nL pc L [v] w k n := by
  intro H locs ls h1 h2 h3
  refine W.widen hk hn ?_
  show W _ _ _ _ _ _ _ _ _ _ _ _ _ _ (xQ X) _
  rw [hQ]
  exact W.aret C.ex C.co C.rt hrt hv (fun t ht hW => ⟨⟨_, w, rfl, hp, by rw [ht]; exact h1⟩, h2.F ht⟩) (q_S h2) d (hlocks := C.lk)
/-! calls -/
theorem gt_good {w : Cond} (h : w ∈ GT) : goodWord w = true := (List.mem_filter.mp h).2
theorem gt_gi {ws : List Cond} (h : ∀ w ∈ ws, w ∈ GT) : GoodIn GT ws := fun w hw => ⟨h w hw, good_of_word (gt_good (h w hw))⟩
theorem pc_blind {E : GE} {w : Wd} {av : List Value} : FrameBlind (va_Pc av (fun U => wOk E w U.heap ∧ KT E U ∧ E.2.2 ≤ U.heap.size)) :=
  fun a U g mk q => by
    obtain ⟨q0, q1, q2, q3⟩ := q
    exact ⟨q0, q1, KT.moved (u := U) (U := U.calling g mk a) (Vm.Alike.refl U.vm) q2, q3⟩
theorem g_run {E X own cc nL ret pc L st st0 w k n mc ms} {Post : Option Value → Wd → Prop} {a : Array Value} (C : CX E X own cc nL ret)
    (hr : ∀ (H : Heap) (locs : List Loc) (ls : Array Slot), wOk E w H → va_S (gA E) (xs X).heap H locs → gL ls nL L → va_Run X.1 (xl X) X.2.2.1 (xR X) (xs X) (xm X) (xargs X) (xbelow X) (xmeth X) (xc X) H locs k n mc ms (F0 (xm X) pc ls st0) st (Qs E Post a) (gA E))
    (kk : ∀ v w', Post v w' → G E X nL (pc + 3) L (v.toList ++ st) w' (k + mc) (n + ms)) : G E X nL pc L st0 w k n := by
  intro H locs ls h1 h2 h3 T hT Y
  obtain ⟨v, st₀, t, T', L9, h0, X', hL, e1, e2, ⟨⟨v', w', hv, hp, hw⟩, hz, hkp⟩, stp⟩ := hr H locs ls h1 h2 h3 T hT Y
  cases hv
  rw [h0] at hz hkp
  rw [← e1] at hw hz hkp
  obtain ⟨t2, a1, b1⟩ := kk v w' hp T'.heap (locs ++ L9) ls hw ⟨Nat.le_trans h2.1 hz, fun q g1 g2 => (hkp q (Nat.lt_of_lt_of_le g1 h2.1) g2).trans (h2.2.1 q g1 g2), fun q hq => by
      rcases List.mem_append.mp hq with h | h
      · exact h2.2.2 q h
      · exact hL q h⟩ h3 T' rfl X'
  exact ⟨t2, stp t2 a1, b1⟩
theorem g_callS {E X own cc nL ret pc L st st0 w k n} (C : CX E X own cc nL ret) {y : MethodName} {bytes : ByteArray} {maxL : Nat} {rt : Option FieldType} {dep mc ms index nA : Nat} {av : List Value} {Post : Option Value → Wd → Prop} (hS : Sp E (xl X) y bytes maxL rt dep mc ms av w Post)
    (ml : Cond.methodLink own index y ∈ GT) (sm : Cond.static y ∈ GT) (ini : Cond.initialized y.cls ∈ GT) (co : Cond.code y bytes maxL rt ∈ GT)
    (hd : y.cls ≠ "java/lang/invoke/MethodHandle" ∧ y.cls ≠ "java/lang/invoke/VarHandle" ∧ (parseMethodDescriptor y.desc).map (fun d => d.parameters.length) = some nA) (hA : av.length = nA)
    (hR : dep + 1 ≤ (xR X).frames ∧ 8 + (maxL + 11) + 64 * dep ≤ (xR X).locals) (hst : st0 = av.reverse ++ st) (hcat : (st.map fun v => v.category).sum ≤ 8) (hf : k + mc ≤ (xR X).cells ∧ n + ms ≤ (xR X).slots) (d : decode cc pc = .ok (.invokestatic index, 3))
    (kk : ∀ v w', Post v w' → G E X nL (pc + 3) L (v.toList ++ st) w' (k + mc) (n + ms)) : G E X nL pc L st0 w k n := by
  refine g_run (a := av.toArray) C (fun H locs ls h1 h2 h3 => ?_) kk
  have hb : E.2.2 ≤ H.size := Nat.le_trans C.bs h2.1
  exact va_runS (Ts := GT) ⟨C.ex, C.co, C.ml, C.ow, C.ts⟩ hS (va_cwS nA C.ts (gt_gi (fun w hw => by
      rcases List.mem_append.mp hw with h | h
      · simp only [List.mem_cons, List.not_mem_nil, or_false] at h
        rcases h with rfl | rfl | rfl
        · exact ml
        · exact sm
        · exact ini
      · rcases List.mem_cons.mp h with rfl | h
        · exact co
        · exact h)) rfl rfl rfl hd hR)
    ⟨pc_blind, fun U hU hW => ⟨rfl, by rw [hU]; exact h1, C.kt.moved hW.alike, by rw [hU]; exact hb⟩⟩ rfl hA h3.1 hst (lv_room hcat) d hf
theorem w_recv {E : GE} {X : XT} {w : Wd} {H : Heap} (hK : KT E (xs X)) (h : wOk E w H) {a ci : Nat} {b : Bool} {fs : List Value} {q : vw_C} (hc : clz[ci]? = some q) (ha : w.2 a = some (b, eO ci fs)) : ∃ cell : Cell, H[a]? = some cell ∧ cell.vm.isStatics = false ∧ (xs X).vm.findClass q.1 = some cell.cls :=
  va_recv hK.1 (h.P ha) hc (q0 := 0) rfl
theorem g_callV {E X own cc nL ret pc L st st0 w k n} (C : CX E X own cc nL ret) {y : MethodName} {bytes : ByteArray} {maxL : Nat} {rt : Option FieldType} {dep mc ms index nA : Nat} {a : Nat} {av : List Value} {Post : Option Value → Wd → Prop} (hS : Sp E (xl X) y bytes maxL rt dep mc ms (.ref a :: av) w Post)
    {ci : Nat} {q : vw_C} {b : Bool} {fs : List Value} (hc : clz[ci]? = some q) (ha : w.2 a = some (b, eO ci fs)) (hy : y.cls = q.1)
    (ml : Cond.methodLink own index y ∈ GT) (im : Cond.instanceMethod y ∈ GT) (se : Cond.selects q.1 y y ∈ GT) (ini : Cond.initialized q.1 ∈ GT) (co : Cond.code y bytes maxL rt ∈ GT)
    (hd : y.cls ≠ "java/lang/invoke/MethodHandle" ∧ y.cls ≠ "java/lang/invoke/VarHandle" ∧ (parseMethodDescriptor y.desc).map (fun d => d.parameters.length) = some nA) (hA : av.length = nA)
    (hR : dep + 1 ≤ (xR X).frames ∧ 8 + (maxL + 11) + 64 * dep ≤ (xR X).locals) (hst : st0 = av.reverse ++ .ref a :: st) (hcat : (st.map fun v => v.category).sum ≤ 8) (hf : k + mc ≤ (xR X).cells ∧ n + ms ≤ (xR X).slots) (d : decode cc pc = .ok (.invokevirtual index, 3))
    (kk : ∀ v w', Post v w' → G E X nL (pc + 3) L (v.toList ++ st) w' (k + mc) (n + ms)) : G E X nL pc L st0 w k n := by
  refine g_run (a := (Value.ref a :: av).toArray) C (fun H locs ls h1 h2 h3 => ?_) kk
  have hb : E.2.2 ≤ H.size := Nat.le_trans C.bs h2.1
  exact va_runV (C := q.1) (Ts := GT) ⟨C.ex, C.co, C.ml, C.ow, C.ts⟩ hS (cwV nA C.ts (gt_gi (fun w hw => by
      rcases List.mem_append.mp hw with h | h
      · simp only [List.mem_cons, List.not_mem_nil, or_false] at h
        rcases h with rfl | rfl | rfl | rfl
        · exact ml
        · exact im
        · exact se
        · exact ini
      · rcases List.mem_cons.mp h with rfl | h
        · exact co
        · exact h)) rfl rfl rfl ⟨hy, hd⟩ hR)
    ⟨pc_blind, w_recv C.kt h1 hc ha, fun U hU hW => ⟨rfl, by rw [hU]; exact h1, C.kt.moved hW.alike, by rw [hU]; exact hb⟩⟩ rfl hA h3.1 hst (lv_room hcat) d hf
theorem g_callI {E X own cc nL ret pc L st st0 w k n} (C : CX E X own cc nL ret) {y : MethodName} {bytes : ByteArray} {maxL : Nat} {dep mc ms index nA : Nat} {a : Nat} {av : List Value} {Post : Option Value → Wd → Prop} (hS : Sp E (xl X) y bytes maxL none dep mc ms (.ref a :: av) w Post)
    (ml : Cond.methodLink own index y ∈ GT) (im : Cond.instanceMethod y ∈ GT) (ini : Cond.initialized y.cls ∈ GT) (co : Cond.code y bytes maxL none ∈ GT) (hy : y.name = "<init>")
    (hd : y.cls ≠ "java/lang/invoke/MethodHandle" ∧ y.cls ≠ "java/lang/invoke/VarHandle" ∧ (parseMethodDescriptor y.desc).map (fun d => d.parameters.length) = some nA) (hA : av.length = nA)
    (hR : dep + 1 ≤ (xR X).frames ∧ 8 + (maxL + 11) + 64 * dep ≤ (xR X).locals) (hst : st0 = av.reverse ++ .ref a :: st) (hcat : (st.map fun v => v.category).sum ≤ 8) (hf : k + mc ≤ (xR X).cells ∧ n + ms ≤ (xR X).slots) (d : decode cc pc = .ok (.invokespecial index, 3))
    (kk : ∀ v w', Post v w' → G E X nL (pc + 3) L (v.toList ++ st) w' (k + mc) (n + ms)) : G E X nL pc L st0 w k n := by
  refine g_run (a := (Value.ref a :: av).toArray) C (fun H locs ls h1 h2 h3 => ?_) kk
  have hb : E.2.2 ≤ H.size := Nat.le_trans C.bs h2.1
  exact va_runI (Ts := GT) ⟨C.ex, C.co, C.ml, C.ow, C.ts⟩ hS (cwI nA C.ts (gt_gi (fun w hw => by
      rcases List.mem_cons.mp hw with rfl | h
      · exact co
      · exact h)) rfl rfl rfl (C.ts _ ini) (C.ts _ ml) (C.ts _ im) hy hd hR)
    ⟨pc_blind, fun U hU hW => ⟨rfl, by rw [hU]; exact h1, C.kt.moved hW.alike, by rw [hU]; exact hb⟩⟩ rfl hA h3.1 hst (lv_room hcat) d hf
theorem wpush_s {w : Wd} {e : WdE} : (wpush w e).2 w.1 = some e := by simp [wpush]
theorem wpush_n {w : Wd} {e : WdE} {b : Nat} (h : b ≠ w.1) : (wpush w e).2 b = w.2 b := by simp [wpush, h]
theorem wpush_1 {w : Wd} {e : WdE} : (wpush w e).1 = w.1 + 1 := rfl
theorem wset_s {w : Wd} {a : Nat} {e : WdE} : (wset w a e).2 a = some e := by simp [wset]
theorem wset_n {w : Wd} {a b : Nat} {e : WdE} (h : b ≠ a) : (wset w a e).2 b = w.2 b := by simp [wset, h]
theorem wset_1 {w : Wd} {a : Nat} {e : WdE} : (wset w a e).1 = w.1 := rfl
theorem wset_push {w : Wd} {e e' : WdE} : wset (wpush w e) w.1 e' = wpush w e' := by
  unfold wset wpush
  congr 1
  funext b
  by_cases h : b = w.1 <;> simp [h]
theorem wset_set {w : Wd} {a : Nat} {e e' : WdE} : wset (wset w a e) a e' = wset w a e' := by
  unfold wset
  congr 1
  funext b
  by_cases h : b = a <;> simp [h]
theorem wset_id {w : Wd} {a : Nat} {e : WdE} (h : w.2 a = some e) : wset w a e = w := by
  obtain ⟨n, f⟩ := w
  unfold wset
  congr 1
  funext b
  by_cases q : b = a
  · subst q; simp; exact h.symm
  · simp [q]
theorem bI_t {p : Prop} [Decidable p] (h : p) : bI p = 1 := if_pos h
theorem bI_f {p : Prop} [Decidable p] (h : ¬ p) : bI p = 0 := if_neg h
theorem g_loop {σ : Type} (P Gs : σ → Prop) (μ : σ → Nat) (step : ∀ s, P s → (∀ s', P s' → μ s' < μ s → Gs s') → Gs s) (s : σ) (h : P s) : Gs s := by
  have key : ∀ (n : Nat) (s : σ), μ s < n → P s → Gs s := by
    intro n
    induction n with
    | zero => intro s hs; omega
    | succ n ih => intro s hs hp; exact step s hp (fun s' hp' hlt => ih s' (by omega) hp')
  exact key (μ s + 1) s (by omega) h
theorem g_lcmp {E X own cc nL ret pc L st w k n} (C : CX E X own cc nL ret) {x y : Int} (d : decode cc pc = .ok (.lcmp, 1)) (hx : -9223372036854775808 ≤ x ∧ x < 9223372036854775808) (hy : -9223372036854775808 ≤ y ∧ y < 9223372036854775808)
    (kk : ∀ c : Int, (c = -1 ∧ x < y ∨ c = 0 ∧ x = y ∨ c = 1 ∧ y < x) → G E X nL (pc + 1) L (iI c :: st) w k n) : G E X nL pc L (jJ y :: jJ x :: st) w k n := by
  intro H locs ls h1 h2 h3
  refine W.lcmp C.ex C.co d ?_
  rcases Int.lt_trichotomy x y with q | q | q
  · have e : ¬ Int64.ofInt y < Int64.ofInt x := fun p => by have := (j_lt hy hx).mp p; omega
    have e2 : ¬ Int64.ofInt x = Int64.ofInt y := fun p => by have := (j_eq hx hy).mp p; omega
    have e3 : lg_cmp (Int64.ofInt x) (Int64.ofInt y) = Int32.ofInt (-1) := by simp [lg_cmp, e, e2]
    rw [e3]
    exact kk (-1) (Or.inl ⟨rfl, q⟩) H locs ls h1 h2 h3
  · subst q
    have e : ¬ Int64.ofInt x < Int64.ofInt x := fun q => by have := (j_lt hx hx).mp q; omega
    have e3 : lg_cmp (Int64.ofInt x) (Int64.ofInt x) = Int32.ofInt 0 := by simp [lg_cmp, e]
    rw [e3]
    exact kk 0 (Or.inr (Or.inl ⟨rfl, rfl⟩)) H locs ls h1 h2 h3
  · have e : Int64.ofInt y < Int64.ofInt x := (j_lt hy hx).mpr q
    have e3 : lg_cmp (Int64.ofInt x) (Int64.ofInt y) = Int32.ofInt 1 := by simp [lg_cmp, e]
    rw [e3]
    exact kk 1 (Or.inr (Or.inr ⟨rfl, q⟩)) H locs ls h1 h2 h3
theorem g_ldc2 {E X own cc nL ret pc L st w k n} (C : CX E X own cc nL ret) {z : Int} {v : Int64} {index : Nat} (kj : Cond.constantLong own index v ∈ GT) (hv : v = Int64.ofInt z) (d : decode cc pc = .ok (.ldc2_w index, 3)) (kk : G E X nL (pc + 3) L (jJ z :: st) w k n) : G E X nL pc L st w k n := by
  subst hv
  exact fun H locs ls h1 h2 h3 => lv_ldc2 C.ex C.co C.ow (C.ts _ kj) d (kk H locs ls h1 h2 h3)
theorem g_ldc {E X own cc nL ret pc L st w k n} (C : CX E X own cc nL ret) {z : Int} {v : Int32} {index : Nat} (ko : Cond.constant own index v ∈ GT) (hv : v = Int32.ofInt z) (d : decode cc pc = .ok (.ldc index, 2)) (kk : G E X nL (pc + 2) L (iI z :: st) w k n) : G E X nL pc L st w k n := by
  subst hv
  exact fun H locs ls h1 h2 h3 => lv_ldc C.ex C.co C.ow (C.ts _ ko) d (kk H locs ls h1 h2 h3)
theorem g_max {E X own cc nL ret pc L st w k n} (C : CX E X own cc nL ret) {x y : Int} {index : Nat} (ml : Cond.methodLink own index Lib.Math.max.name ∈ GT) (hx : -2147483648 ≤ x ∧ x < 2147483648) (hy : -2147483648 ≤ y ∧ y < 2147483648) (hf : 1 ≤ (xR X).frames) (hl : 64 ≤ (xR X).locals) (hcat : (st.map fun v => v.category).sum ≤ 8) (hk : k ≤ (xR X).cells ∧ n ≤ (xR X).slots) (d : decode cc pc = .ok (.invokestatic index, 3))
    (kk : G E X nL (pc + 3) L (iI (if x < y then y else x) :: st) w k n) : G E X nL pc L (iI y :: iI x :: st) w k n := by
  intro H locs ls h1 h2 h3
  refine va_mmax C.ex C.co (by rw [C.ml, h3.1]) C.ow (C.ts _ ml) (C.ts _ gw_static_Lib_Math_max_name) (C.ts _ gw_initialized_java_lang_Math) (C.ts _ gw_code_Lib_Math_max_name_Lib_Math_max_code_2_some_int) hf (by omega) hk.1 hk.2 d ?_
  have q := kk H locs ls h1 h2 h3
  by_cases e : x < y
  · rw [if_pos e] at q; rw [if_pos ((i_lt hx hy).mpr e)]; exact q
  · rw [if_neg e] at q; rw [if_neg (fun p => e ((i_lt hx hy).mp p))]; exact q
theorem g_min {E X own cc nL ret pc L st w k n} (C : CX E X own cc nL ret) {x y : Int} {index : Nat} (ml : Cond.methodLink own index Lib.Math.min.name ∈ GT) (hx : -2147483648 ≤ x ∧ x < 2147483648) (hy : -2147483648 ≤ y ∧ y < 2147483648) (hf : 1 ≤ (xR X).frames) (hl : 64 ≤ (xR X).locals) (hcat : (st.map fun v => v.category).sum ≤ 8) (hk : k ≤ (xR X).cells ∧ n ≤ (xR X).slots) (d : decode cc pc = .ok (.invokestatic index, 3))
    (kk : G E X nL (pc + 3) L (iI (if y < x then y else x) :: st) w k n) : G E X nL pc L (iI y :: iI x :: st) w k n := by
  intro H locs ls h1 h2 h3
  refine va_mmin C.ex C.co (by rw [C.ml, h3.1]) C.ow (C.ts _ ml) (C.ts _ gw_static_Lib_Math_min_name) (C.ts _ gw_initialized_java_lang_Math) (C.ts _ gw_code_Lib_Math_min_name_Lib_Math_min_code_2_some_int) hf (by omega) hk.1 hk.2 d ?_
  have q := kk H locs ls h1 h2 h3
  by_cases e : y < x
  · rw [if_pos e] at q; rw [if_pos ((i_lt hy hx).mpr e)]; exact q
  · rw [if_neg e] at q; rw [if_neg (fun p => e ((i_lt hy hx).mp p))]; exact q
theorem g_abs {E X own cc nL ret pc L st w k n} (C : CX E X own cc nL ret) {x : Int} {index : Nat} (ml : Cond.methodLink own index Lib.Math.abs.name ∈ GT) (hx : -2147483648 ≤ x ∧ x < 2147483648) (hf : 1 ≤ (xR X).frames) (hl : 64 ≤ (xR X).locals) (hcat : (st.map fun v => v.category).sum ≤ 8) (hk : k ≤ (xR X).cells ∧ n ≤ (xR X).slots) (d : decode cc pc = .ok (.invokestatic index, 3))
    (kk : G E X nL (pc + 3) L (iI (if 0 ≤ x then x else 0 - x) :: st) w k n) : G E X nL pc L (iI x :: st) w k n := by
  intro H locs ls h1 h2 h3
  refine va_mabs C.ex C.co (by rw [C.ml, h3.1]) C.ow (C.ts _ ml) (C.ts _ gw_static_Lib_Math_abs_name) (C.ts _ gw_initialized_java_lang_Math) (C.ts _ gw_code_Lib_Math_abs_name_Lib_Math_abs_code_1_some_int) hf (by omega) hk.1 hk.2 d ?_
  have q := kk H locs ls h1 h2 h3
  have e0 : (0 : Int32) = Int32.ofInt 0 := i_0
  by_cases e : 0 ≤ x
  · rw [if_pos e] at q; rw [if_pos (by rw [e0]; exact (i_le (by omega) hx).mpr e)]; exact q
  · rw [if_neg e] at q
    rw [if_neg (fun p => e ((i_le (by omega) hx).mp (by rw [← e0]; exact p))), e0, ← Int32.ofInt_sub]
    exact q
theorem g_cloneI {E X own cc nL ret pc L st w k n} (C : CX E X own cc nL ret) {a N : Nat} {b : Bool} {f : Nat → Int} {index : Nat} (h : w.2 a = some (b, eI N f)) (ml : Cond.methodLink own index ⟨"[I", "clone", "()Ljava/lang/Object;"⟩ ∈ GT)
    (hf : 1 ≤ (xR X).frames) (hl : 64 ≤ (xR X).locals) (hcat : (st.map fun v => v.category).sum ≤ 8) (hk : k + 1 ≤ (xR X).cells ∧ n + N ≤ (xR X).slots) (d : decode cc pc = .ok (.invokevirtual index, 3))
    (kk : G E X nL (pc + 3) L (.ref w.1 :: st) (wpush w (true, eI N f)) (k + 1) (n + N)) : G E X nL pc L (.ref a :: st) w k n := by
  intro H locs ls h1 h2 h3
  have hP := h1.P h
  have hcell : H[a]? = some (vp_cell (E.2.1 0) (N, .inl (fun j => Int32.ofInt (f j)))) := hP 0 _ rfl
  have hAr := (kt_i C.kt 0 rfl).1
  have hnm : (xs X).vm.findClass "[I" = some (E.2.1 0) := (kt_i C.kt 0 rfl).2
  obtain ⟨c0, t0', f1, f2, f3⟩ := Cond.castable_spec (va_Nw.use (A := xargs X) rfl C.kt.2.2.2.2.2.2.2.1)
  cases hnm.symm.trans f1
  intro T hT Y
  have hcellT : T.heap[a]? = some (vp_cell (E.2.1 0) (N, .inl (fun j => Int32.ofInt (f j)))) := by rw [hT]; exact hcell
  obtain ⟨-, kA, hkA, comp, hkind⟩ := State.isArrayOf_alike Y.warmed.alike (hAr 0 (fun _ => .null))
  obtain ⟨-, kS, hkS, compS, hkindS⟩ := hAr 0 (fun _ => .null)
  have hsz : (vp_cell (E.2.1 0) (N, .inl (fun j => Int32.ofInt (f j)))).slots.size = N := arrV_size _ _ _
  obtain ⟨vm', X', st'⟩ := Y.cloneArray C.ex C.ow (C.ts _ ml) (C.ts _ gw_sameMethod_I_java_lang_Object_clone_Ljava_lang_Object) (C.ts _ gw_native_java_lang_Object_clone_Ljava_lang_Object) (C.ts _ gw_instanceMethod_java_lang_Object_clone_Ljava_lang_Object) (C.ts _ gw_selects_I_I_clone_Ljava_lang_Object_java_lang_Object_clone_Ljava_lang_) (a := a) (cell := vp_cell (E.2.1 0) (N, .inl (fun j => Int32.ofInt (f j)))) hcellT (fun k h => by cases h) (fun h => by cases h) hnm f2 f3
    (fun i v hv => by
      have hk' : T.vm.classes[E.2.1 0]? = some kA := hkA
      have hv' : (arrV (E.2.1 0) N (fun j => Value.int (Int32.ofInt (f j)))).slots[i]? = some v := hv
      have hi : i < N := by
        have := (Array.getElem?_eq_some_iff.mp hv').1
        rw [arrV_size] at this; exact this
      rw [arrV_read _ _ hi] at hv'
      cases hv'
      simp [State.fitsSlot, State.slotType?, vp_cell, arrV, hk', hkind, fits])
    (g := F0 (xm X) pc ls (.ref a :: st)) rfl (by rw [h3.1, C.ml]) rfl (by rw [C.co]; exact d) hf (by show 2 * 0 + _ + 14 ≤ _; omega) hk.1 (by rw [hsz]; exact hk.2) (hloader := Vm.clonesLoader_of_array hkS hkindS)
  rw [show ({ cls := (vp_cell (E.2.1 0) (N, .inl (fun j => Int32.ofInt (f j)))).cls, slots := (vp_cell (E.2.1 0) (N, .inl (fun j => Int32.ofInt (f j)))).slots } : Cell) = vp_cell (E.2.1 0) (N, .inl (fun j => Int32.ofInt (f j))) from rfl, hsz] at X'
  generalize hH1 : H.push (vp_cell (E.2.1 0) (N, .inl (fun j => Int32.ofInt (f j)))) = H1
  have z1 : H1.size = H.size + 1 := by rw [← hH1, Array.size_push]
  have e1 : H1[w.1]? = some (vp_cell (E.2.1 0) (N, .inl (fun j => Int32.ofInt (f j)))) := by rw [← hH1, ← h1.1, Array.getElem?_push_size]
  have o1 : ∀ q : Nat, q < H.size → H1[q]? = H[q]? := fun q hq => by rw [← hH1, Array.getElem?_push, if_neg (Nat.ne_of_lt hq)]
  have hb : E.2.2 ≤ w.1 := by rw [← h1.1]; exact Nat.le_trans C.bs h2.1
  obtain ⟨t, b1, b2⟩ := kk H1 locs ls (h1.push (e := eI N f) e1 hb z1 o1) (h2.p1 z1 o1) h3 ((T.setVm vm').pushCell (vp_cell (E.2.1 0) (N, .inl (fun j => Int32.ofInt (f j))))) (by rw [← hH1, ← hT]; rfl) X'
  refine ⟨t, st' t ?_, b2⟩
  rw [show ({ cls := (vp_cell (E.2.1 0) (N, .inl (fun j => Int32.ofInt (f j)))).cls, slots := (vp_cell (E.2.1 0) (N, .inl (fun j => Int32.ofInt (f j)))).slots } : Cell) = vp_cell (E.2.1 0) (N, .inl (fun j => Int32.ofInt (f j))) from rfl, hT, h1.1]
  exact b1
theorem g_castI {E X own cc nL ret pc L st w k n} (C : CX E X own cc nL ret) {a N : Nat} {b : Bool} {f : Nat → Int} {index : Nat} (h : w.2 a = some (b, eI N f)) (kl : Cond.classLink own index "[I" ∈ GT) (d : decode cc pc = .ok (.checkcast index, 3))
    (kk : G E X nL (pc + 3) L (.ref a :: st) w k n) : G E X nL pc L (.ref a :: st) w k n :=
  fun H locs ls h1 h2 h3 => va_castA (ws := [(a, .inl (E.2.1 0, N, .inl (fun j => Int32.ofInt (f j))))]) C.ex C.co C.ow (C.ts _ kl) (h1.P h) 0 rfl (kt_i C.kt 0 rfl).2 d (kk H locs ls h1 h2 h3)
/-! worlds that grow -/
def wF (w : Wd) : Prop := ∀ a x, w.2 a = some x → a < w.1
theorem g_wf {E X nL pc L st w k n} (kk : wF w → G E X nL pc L st w k n) : G E X nL pc L st w k n :=
  fun H locs ls h1 h2 h3 => kk (fun a x h => h1.lt h) H locs ls h1 h2 h3
def Ex (w w' : Wd) : Prop := w.1 ≤ w'.1 ∧ ∀ a x, w.2 a = some x → w'.2 a = some x
theorem Ex.rf (w : Wd) : Ex w w := ⟨Nat.le_refl _, fun _ _ h => h⟩
theorem Ex.tr {w w1 w2 : Wd} (h : Ex w w1) (h' : Ex w1 w2) : Ex w w2 := ⟨Nat.le_trans h.1 h'.1, fun a x q => h'.2 a x (h.2 a x q)⟩
theorem Ex.push {w : Wd} (h : wF w) (e : WdE) : Ex w (wpush w e) := ⟨Nat.le_succ _, fun a x q => by rw [wpush_n (Nat.ne_of_lt (h a x q))]; exact q⟩
theorem wF.push {w : Wd} (h : wF w) (e : WdE) : wF (wpush w e) := by
  intro a x q
  show a < w.1 + 1
  by_cases r : a = w.1
  · omega
  · rw [wpush_n r] at q
    have := h a x q; omega
theorem wF.set {w : Wd} {a : Nat} {e0 : WdE} (h : wF w) (h0 : w.2 a = some e0) (e : WdE) : wF (wset w a e) := by
  intro b x q
  show b < w.1
  by_cases r : b = a
  · subst r; exact h b e0 h0
  · rw [wset_n r] at q
    exact h b x q
theorem g_ialoadN {E X own cc nL ret pc L st w k n} (i : Nat) (C : CX E X own cc nL ret) {a N : Nat} {b : Bool} {f : Nat → Int} {z : Int} (h : w.2 a = some (b, eI N f)) (hz : z = i) (hi : i < N ∧ i < 2147483648) (d : decode cc pc = .ok (.iaload, 1))
    (kk : G E X nL (pc + 1) L (iI (f i) :: st) w k n) : G E X nL pc L (iI z :: .ref a :: st) w k n := by
  subst hz
  exact g_iaload C h (by omega) d (by rw [Int.toNat_natCast]; exact kk)
theorem g_iastoreN {E X own cc nL ret pc L st w k n} (i : Nat) (C : CX E X own cc nL ret) {a N : Nat} {f : Nat → Int} {z x : Int} (h : w.2 a = some (true, eI N f)) (hz : z = i) (hi : i < N ∧ i < 2147483648) (d : decode cc pc = .ok (.iastore, 1))
    (kk : G E X nL (pc + 1) L st (wset w a (true, eI N (iup f i x))) k n) : G E X nL pc L (iI x :: iI z :: .ref a :: st) w k n := by
  subst hz
  exact g_iastore C h (by omega) d (by rw [Int.toNat_natCast]; exact kk)
theorem g_aaloadN {E X own cc nL ret pc L st w k n} (i : Nat) (C : CX E X own cc nL ret) {a ki N q : Nat} {b : Bool} {f : Nat → Option Nat} {z : Int} {t : FieldType} (ht : (tysOf E.2.1)[ki]? = some (E.2.1 ki, t)) (hr : t.isReference = true) (h : w.2 a = some (b, eR ki N f)) (hz : z = i) (hi : i < N ∧ i < 2147483648) (hq : f i = some q) (d : decode cc pc = .ok (.aaload, 1))
    (kk : G E X nL (pc + 1) L (.ref q :: st) w k n) : G E X nL pc L (iI z :: .ref a :: st) w k n := by
  subst hz
  exact g_aaload C ht hr h (by omega) (by rw [Int.toNat_natCast]; exact hq) d kk
theorem g_drop {E X nL pc L st w k n} (i : Nat) (kk : G E X nL pc (L.set i none) st w k n) : G E X nL pc L st w k n := by
  refine g_less (fun j v h => ?_) kk
  by_cases q : i = j
  · subst q
    have hl : i < L.length := by
      have := (List.getElem?_eq_some_iff.mp h).1
      simpa using this
    rw [List.getElem?_set_self hl] at h
    cases h
  · rw [List.getElem?_set_ne q] at h
    exact h
theorem g_idivN {E X own cc nL ret pc L st w k n} (C : CX E X own cc nL ret) {x y : Int} (d : decode cc pc = .ok (.idiv, 1)) (hx : 0 ≤ x ∧ x < 2147483648) (hy : 0 < y ∧ y < 2147483648) (kk : G E X nL (pc + 1) L (iI (x / y) :: st) w k n) : G E X nL pc L (iI y :: iI x :: st) w k n :=
  g_idiv C d (by omega) (by omega) (by omega) (by rw [Int.tdiv_eq_ediv_of_nonneg hx.1]; exact kk)
theorem g_iremN {E X own cc nL ret pc L st w k n} (C : CX E X own cc nL ret) {x y : Int} (d : decode cc pc = .ok (.irem, 1)) (hx : 0 ≤ x ∧ x < 2147483648) (hy : 0 < y ∧ y < 2147483648) (kk : G E X nL (pc + 1) L (iI (x % y) :: st) w k n) : G E X nL pc L (iI y :: iI x :: st) w k n :=
  g_irem C d (by omega) (by omega) (by omega) (by rw [Int.tmod_eq_emod_of_nonneg hx.1]; exact kk)
theorem g_ldivN {E X own cc nL ret pc L st w k n} (C : CX E X own cc nL ret) {x y : Int} (d : decode cc pc = .ok (.ldiv, 1)) (hx : 0 ≤ x ∧ x < 9223372036854775808) (hy : 0 < y ∧ y < 9223372036854775808) (kk : G E X nL (pc + 1) L (jJ (x / y) :: st) w k n) : G E X nL pc L (jJ y :: jJ x :: st) w k n :=
  g_ldiv C d (by omega) (by omega) (by omega) (by rw [Int.tdiv_eq_ediv_of_nonneg hx.1]; exact kk)
theorem g_lremN {E X own cc nL ret pc L st w k n} (C : CX E X own cc nL ret) {x y : Int} (d : decode cc pc = .ok (.lrem, 1)) (hx : 0 ≤ x ∧ x < 9223372036854775808) (hy : 0 < y ∧ y < 9223372036854775808) (kk : G E X nL (pc + 1) L (jJ (x % y) :: st) w k n) : G E X nL pc L (jJ y :: jJ x :: st) w k n :=
  g_lrem C d (by omega) (by omega) (by omega) (by rw [Int.tmod_eq_emod_of_nonneg hx.1]; exact kk)
