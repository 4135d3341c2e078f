/-! exceptions that leave a method, and their catching by the law's wrappers -/
abbrev sIO : String := "java/lang/IndexOutOfBoundsException"
abbrev sIA : String := "java/lang/IllegalArgumentException"
abbrev nEx : List String := ["java/lang/RuntimeException", "java/lang/Exception"]
def XcE (E : GE) (cls : String) (Post : Wd → Prop) : String → State → State → Prop := fun nm st t => nm = cls ∧ (∃ w', Post w' ∧ wOk E w' t.heap) ∧ va_F (gA E) st t
def dRt : MethodName := Bundle.initS "java/lang/RuntimeException"
def dEx : MethodName := Bundle.initS "java/lang/Exception"
def dTh : MethodName := Bundle.initS Bundle.tN
def HX (U : State) : Prop := va_Nw (.castable sIO sIO) U ∧ va_Nw (.castable sIA sIA) U ∧ va_Nc sIA sIO U ∧ va_Nw (.declares dRt) U ∧ va_Nw (.declares dEx) U ∧ va_Nw (.declares dTh) U ∧ va_Nw (.fieldLinkNest RL 13 RX7 "n" "J" RL) U ∧ va_Nw (.fieldLinkNest RL 40 RX7 "s" "Ljava/lang/String;" RL) U
theorem HX.warm {s U : State} (hW : s.WarmedH U.vm) (h : HX s) : HX U := ⟨va_Nw.warmC hW h.1, va_Nw.warmC hW h.2.1, va_Nc.moved hW.alike h.2.2.1, va_Nw.warmD hW h.2.2.2.1, va_Nw.warmD hW h.2.2.2.2.1, va_Nw.warmD hW h.2.2.2.2.2.1, va_Nw.warmF hW h.2.2.2.2.2.2.1, va_Nw.warmF hW h.2.2.2.2.2.2.2⟩
theorem HX.same {u U : State} (hv : U.vm = u.vm) (h : HX u) : HX U := ⟨va_Nw.same rfl hv.symm h.1, va_Nw.same rfl hv.symm h.2.1, va_Nc.moved (by rw [hv]; exact Vm.Alike.refl _) h.2.2.1, va_Nw.same rfl hv.symm h.2.2.2.1, va_Nw.same rfl hv.symm h.2.2.2.2.1, va_Nw.same rfl hv.symm h.2.2.2.2.2.1, va_Nw.same rfl hv.symm h.2.2.2.2.2.2.1, va_Nw.same rfl hv.symm h.2.2.2.2.2.2.2⟩
def xB (cls : String) : List Cond := [Cond.castable cls cls, Cond.declares dRt, Cond.declares dEx, Cond.declares dTh]
def PcX (K : KC) (E : GE) (av : List Value) (w : Wd) : Array Value → State → Prop := fun a U => PcT K E av w a U ∧ HX U
theorem px_blind {K : KC} {E : GE} {w : Wd} {av : List Value} : FrameBlind (PcX K E av w) := fun a U g mk q => ⟨pt_blind a U g mk q.1, HX.same (u := U) rfl q.2⟩
def Tx (K : KC) (E : GE) (l : Launch) (y : MethodName) (cc : ByteArray) (maxL : Nat) (ret : Option FieldType) (dep mc ms : Nat) (av : List Value) (w : Wd) (cls : String) (Post : Wd → Prop) : Prop :=
  vx_Met l y (Cond.code y cc maxL ret :: GT) (rmD dep mc ms) (PcX K E av w) (fun _ _ _ _ => False) (XcE E cls Post) mc ms (gA E)
def RX (E : GE) (X : XT) (mc ms : Nat) (cls : String) (Post : Wd → Prop) : Prop := xQ X = vx_MQ (xbelow X) (fun _ _ _ _ => False) (XcE E cls Post) (xargs X) (xs X) mc ms (gA E)
theorem tx_intro {K : KC} {E : GE} {l : Launch} {y : MethodName} {cc : ByteArray} {maxL : Nat} {ret : Option FieldType} {dep mc ms : Nat} {av : List Value} {w : Wd} {cls : String} {Post : Wd → Prop} (L : List (Option Value)) (hL : lA av maxL = L) (hle : (lg_sl av).length ≤ maxL) (hy : plainName y.cls = true)
    (body : ∀ X : XT, CX E X y.cls cc maxL ret → HT K E (xs X) (xs X).heap → HX (xs X) → ((xR X).frames = dep ∧ (xR X).locals = 64 * dep ∧ (xR X).cells = mc ∧ (xR X).slots = ms) → xl X = l → (∀ x ∈ (xc X).exceptionTable.toList, False) → RX E X mc ms cls Post → G E X maxL 0 L [] w 0 0) : Tx K E l y cc maxL ret dep mc ms av w cls Post := by
  refine vx_ofW (cc := cc) (maxL := maxL) (ret := ret) hy rfl ?_
  intro p e s m args below meth c s₁ B hml hne hv
  obtain ⟨⟨rfl, hw, hK, hb, hT⟩, hH⟩ := hv
  have hts := atoms_spec (ws := Cond.code y cc maxL ret :: GT) B.pre
  have b := body (p, l, e, rmD dep mc ms, s, m, av.toArray, below, meth, c, vx_MQ below (fun _ _ _ _ => False) (XcE E cls Post) av.toArray s mc ms (gA E))
    ⟨B.exec, B.bytes, hml, B.returns, B.notSynchronized, findClass_of_methodNamed B.named, fun w h => hts w (List.mem_cons_of_mem _ h), hK, hb⟩ hT hH ⟨rfl, rfl, rfl, rfl⟩ rfl hne rfl
  rw [lg_entry_eq]
  refine b s.heap [] _ hw va_S.rf ⟨(lv_entry av hle).1, (lv_entry av hle).2.1, fun i v h => ?_⟩
  subst hL
  unfold lA at h
  rw [List.getElem?_map] at h
  cases hx : (lg_sl av ++ List.replicate (maxL - (lg_sl av).length) Slot.unset)[i]? with
  | none => rw [hx] at h; cases h
  | some sl =>
    rw [hx] at h
    cases sl with
    | val u =>
      simp [slV] at h
      subst h
      rw [List.getElem?_toArray]
      exact hx
    | _ => simp [slV] at h
theorem wOk.big {E : GE} {w : Wd} {H H1 : Heap} (h : wOk E w H) (h1 : H.size ≤ H1.size) (h2 : ∀ q : Nat, q < H.size → H1[q]? = H[q]?) : wOk E (H1.size, w.2) H1 :=
  ⟨rfl, fun a b e ha => by
    obtain ⟨g1, g2⟩ := h.2 a b e ha
    exact ⟨g1.kept (h2 a g1.lt), g2⟩⟩
/-- new, dup, ldc_w, invokespecial, athrow -/
theorem x_throw {K : KC} {E X own cc nL ret pc L w k n} {mc ms : Nat} {cls : String} {Post : Wd → Prop} (C : CX E X own cc nL ret) (hT : HT K E (xs X) (xs X).heap) (hne : ∀ x ∈ (xc X).exceptionTable.toList, False) (hX : RX E X mc ms cls Post) (hl : (xl X).stackTraces = false) {text : String} {ik is ic sa : Nat}
    (hcls : Bundle.fit cls = true) (hnames : ∀ n ∈ nEx, Bundle.fit n = true) (hk : Cond.classLink own ik cls ∈ GT) (hini : Cond.initialized cls ∈ GT) (hstr : vk_R own is text sa (xs X))
    (hat1 : ∀ w ∈ (vx_atS own ic cls nEx).filter goodWord, w ∈ GT) (hat2 : ∀ w ∈ (vx_atS own ic cls nEx).filter (fun w => !goodWord w), w ∈ xB cls) (hc : va_Nw (.castable cls cls) (xs X)) (hH : HX (xs X)) (hg : ∀ w ∈ Cond.classLink own ik cls :: Cond.initialized cls :: vx_atS own ic cls nEx, vx_ot w = true)
    (d0 : decode cc pc = .ok (.new ik, 3)) (d3 : decode cc (pc + 3) = .ok (.dup, 1)) (d4 : decode cc (pc + 4) = .ok (.ldc_w is, 3)) (d7 : decode cc (pc + 7) = .ok (.invokespecial ic, 3)) (d10 : decode cc (pc + 10) = .ok (.athrow, 1))
    (hR : 5 < (xR X).frames ∧ 82 ≤ (xR X).locals) (hmc : k + 1 ≤ mc ∧ n + 6 ≤ ms ∧ mc ≤ (xR X).cells ∧ ms ≤ (xR X).slots)
    (hp : ∀ w', w.1 ≤ w'.1 → w'.2 = w.2 → Post w') : G E X nL pc L [] w k n := by
  intro H locs ls h1 h2 h3
  have hX' : xQ X = vx_MQ (xbelow X) (fun _ _ _ _ => False) (XcE E cls Post) (xargs X) (xs X) mc ms (gA E) := hX
  show W X.1 (xl X) X.2.2.1 (xR X) (xs X) (xm X) (xargs X) (xbelow X) (xmeth X) (xc X) H locs k n (xQ X) (F0 (xm X) pc ls [])
  rw [hX']
  exact vx_throwSW C.ex C.co hl C.ow hcls hnames (C.ts _ hk) (C.ts _ hini) hstr (vx_hat (fun w hw => C.ts _ (hat1 w hw)) hat2 (vx_c (va_Nw.use rfl hc) (vx_c (va_Nw.use rfl hH.2.2.2.1) (vx_c (va_Nw.use rfl hH.2.2.2.2.1) (vx_c (va_Nw.use rfl hH.2.2.2.2.2.1) vx_n))))) hg hT.2.2.2.2.2.2.1 hT.2.2.2.2.2.2.2.1 h2 (h3.1.trans C.ml.symm)
    d0 d3 d4 d7 d10 (fun x hx => (hne x hx).elim) (by show 2 + 3 < (xR X).frames; omega) (by show 0 + (13 * (2 + 1) + 43) ≤ (xR X).locals; omega) (by omega) (by omega) C.lk
    (fun t ha hz hq => ⟨rfl, ⟨(t.heap.size, w.2), hp (t.heap.size, w.2) (by show w.1 ≤ t.heap.size; rw [← h1.1]; exact hz) rfl, h1.big hz hq⟩, Nat.le_trans h2.1 hz, fun q g1 g2 => (hq q (Nat.lt_of_lt_of_le g1 h2.1)).trans (h2.2.1 q g1 g2)⟩) h2.2.2 hmc.1 hmc.2.1
/-- a static call that throws, not caught here -/
theorem x_callS {K : KC} {E X own cc nL ret pc L st st0 w k n} {mc' ms' : Nat} {cls : String} {Post Post' : Wd → Prop} (C : CX E X own cc nL ret) (hT : HT K E (xs X) (xs X).heap) (hH : HX (xs X)) (hne : ∀ x ∈ (xc X).exceptionTable.toList, False) (hX : RX E X mc' ms' cls Post') {y : MethodName} {bytes : ByteArray} {maxL : Nat} {rt : Option FieldType} {dep mc ms index nA : Nat} {av : List Value} (hS : Tx K E (xl X) y bytes maxL rt dep mc ms av w cls Post)
    (ml : Cond.methodLink own index y ∈ GT) (sm : Cond.static y ∈ GT) (ini : Cond.initialized y.cls ∈ GT) (co : Cond.code y bytes maxL rt ∈ GT)
    (hd : y.cls ≠ "java/lang/invoke/MethodHandle" ∧ y.cls ≠ "java/lang/invoke/VarHandle" ∧ (parseMethodDescriptor y.desc).map (fun d => d.parameters.length) = some nA) (hA : av.length = nA)
    (hR : dep + 1 ≤ (xR X).frames ∧ 8 + (maxL + 11) + 64 * dep ≤ (xR X).locals) (hst : st0 = av.reverse ++ st) (hcat : (st.map fun v => v.category).sum ≤ 8) (hf : k + mc ≤ (xR X).cells ∧ n + ms ≤ (xR X).slots) (hmc : k + mc ≤ mc' ∧ n + ms ≤ ms') (d : decode cc pc = .ok (.invokestatic index, 3))
    (hp : ∀ w', Post w' → Post' w') : G E X nL pc L st0 w k n := by
  intro H locs ls h1 h2 h3 T hT0 Y
  have hr := vx_runS (Ts := GT) ⟨C.ex, C.co, C.ml, C.ow, C.ts⟩ hS (va_cwS nA C.ts (gt_gi (fun w hw => by
      rcases List.mem_append.mp hw with h | h
      · simp only [List.mem_cons, List.not_mem_nil, or_false] at h
        rcases h with rfl | rfl | rfl
        · exact ml
        · exact sm
        · exact ini
      · rcases List.mem_cons.mp h with rfl | h
        · exact co
        · exact h)) rfl rfl rfl hd hR)
    ⟨px_blind, fun U hU hW => ⟨t_pre C hT h1 h2 U hU hW, HX.warm hW hH⟩⟩ (g := F0 (xm X) pc ls st0) rfl hA h3.1 hst (lv_room hcat) d hf T hT0 Y
  rcases hr with ⟨v, st₀, t, T', L9, h0, X', hL, e1, e2, hF, stp⟩ | ⟨q, st₀, t, T', L9, Ecl, ce, h0, X', hL, e1, e2, ⟨rfl, ⟨w', hp', hw'⟩, hz, hkp⟩, hce, hcv, hcl, stp⟩
  · exact hF.elim
  · rw [h0] at hz hkp
    have kx : vx_W X.1 (xl X) X.2.2.1 (xR X) (xs X) (xm X) (xargs X) (xbelow X) (xmeth X) (xc X) T'.heap (locs ++ L9) (k + mc) (n + ms) (vx_MQ (xbelow X) (fun _ _ _ _ => False) (XcE E Ecl Post') (xargs X) (xs X) mc' ms' (gA E)) (F0 (xm X) pc ls st) q := vx_out (fun x hx => (hne x hx).elim) C.lk (by rw [e1]; exact hce) hcv hcl
      (fun t2 ht2 _ => ⟨rfl, ⟨w', hp w' hp', by rw [ht2, e1]; exact hw'⟩, by rw [ht2, e1]; exact Nat.le_trans h2.1 hz, fun q g1 g2 => by
        rw [ht2, e1]
        exact (hkp q (Nat.lt_of_lt_of_le g1 h2.1) g2).trans (h2.2.1 q g1 g2)⟩)
      (fun z hz => by
        rcases List.mem_append.mp hz with h | h
        · exact h2.2.2 z h
        · exact hL z h) hmc.1 hmc.2
    obtain ⟨t2, a1, b1⟩ := kx T' rfl X'
    exact ⟨t2, stp.trans a1, by rw [show xQ X = vx_MQ (xbelow X) (fun _ _ _ _ => False) (XcE E Ecl Post') (xargs X) (xs X) mc' ms' (gA E) from hX]; exact b1⟩
/-- a plain call that throws, caught here -/
theorem x_tryV {K : KC} {E X own cc nL ret pc L st st0 w k n} {cls name : String} {Post : Wd → Prop} (C : CX E X own cc nL ret) (hT : HT K E (xs X) (xs X).heap) (hH : HX (xs X)) {y : MethodName} {bytes : ByteArray} {maxL : Nat} {rt : Option FieldType} {dep mc ms index nA : Nat} {a : Nat} {av : List Value} (hS : Tx K E (xl X) y bytes maxL rt dep mc ms (.ref a :: av) w cls Post)
    {cl : String} (ha : RcV E X w cl a) (hy : y.cls = cl) (ml : Cond.methodLink own index y ∈ GT) (im : Cond.instanceMethod y ∈ GT) (se : Cond.selects cl y y ∈ GT) (ini : Cond.initialized cl ∈ GT) (co : Cond.code y bytes maxL rt ∈ GT)
    (hd : y.cls ≠ "java/lang/invoke/MethodHandle" ∧ y.cls ≠ "java/lang/invoke/VarHandle" ∧ (parseMethodDescriptor y.desc).map (fun d => d.parameters.length) = some nA) (hA : av.length = nA)
    (hR : dep + 1 ≤ (xR X).frames ∧ 8 + (maxL + 11) + 64 * dep ≤ (xR X).locals) (hst : st0 = av.reverse ++ .ref a :: st) (hcat : (st.map fun v => v.category).sum ≤ 8) (hf : k + mc ≤ (xR X).cells ∧ n + ms ≤ (xR X).slots) (d : decode cc pc = .ok (.invokevirtual index, 3))
    (pre : List ExceptionTableEntry) (x : ExceptionTableEntry) (suf : List ExceptionTableEntry) (hsplit : (xc X).exceptionTable.toList = pre ++ x :: suf)
    (hpass : ∀ z ∈ pre, covers z pc = false ∨ (z.catchType ≠ 0 ∧ ∃ nm : String, Cond.classLink own z.catchType nm ∈ GT ∧ va_Nc cls nm (xs X))) (hx : covers x pc = true) (h0 : x.catchType ≠ 0) (hlink : Cond.classLink own x.catchType name ∈ GT) (hcast : va_Nw (.castable cls name) (xs X))
    (kk : ∀ q w', Post w' → G E X nL x.handlerPc L [.ref q] w' (k + mc) (n + ms)) : G E X nL pc L st0 w k n := by
  intro H locs ls h1 h2 h3 T hT0 Y
  have hr := vx_runV (C := cl) (Ts := GT) ⟨C.ex, C.co, C.ml, C.ow, C.ts⟩ hS (cwV nA C.ts (gt_gi (fun w hw => by
      rcases List.mem_append.mp hw with h | h
      · simp only [List.mem_cons, List.not_mem_nil, or_false] at h
        rcases h with rfl | rfl | rfl | rfl
        · exact ml
        · exact im
        · exact se
        · exact ini
      · rcases List.mem_cons.mp h with rfl | h
        · exact co
        · exact h)) rfl rfl rfl ⟨hy, hd⟩ hR)
    ⟨px_blind, ha H locs h1 h2, fun U hU hW => ⟨t_pre C hT h1 h2 U hU hW, HX.warm hW hH⟩⟩ (g := F0 (xm X) pc ls st0) rfl hA h3.1 hst (lv_room hcat) d hf T hT0 Y
  rcases hr with ⟨v, st₀, t, T', L9, h0', X', hL, e1, e2, hF, stp⟩ | ⟨q, st₀, t, T', L9, Ecl, ce, h0', X', hL, e1, e2, ⟨rfl, ⟨w', hp', hw'⟩, hz, hkp⟩, hce, hcv, hcl, stp⟩
  · exact hF.elim
  · rw [h0'] at hz hkp
    have kx : vx_W X.1 (xl X) X.2.2.1 (xR X) (xs X) (xm X) (xargs X) (xbelow X) (xmeth X) (xc X) T'.heap (locs ++ L9) (k + mc) (n + ms) (xQ X) (F0 (xm X) pc ls st) q := vx_catch C.ow pre x suf hsplit (fun z hz => by
        rcases hpass z hz with h | ⟨g1, nm, g2, g3⟩
        · exact Or.inl h
        · exact Or.inr ⟨g1, nm, C.ts _ g2, g3⟩) hx h0 (C.ts _ hlink) (va_Nw.use rfl hcast) (by rw [e1]; exact hce) hcv hcl
      (kk q w' hp' T'.heap (locs ++ L9) ls (by rw [e1]; exact hw') ⟨by rw [e1]; exact Nat.le_trans h2.1 hz, fun q g1 g2 => by
          rw [e1]
          exact (hkp q (Nat.lt_of_lt_of_le g1 h2.1) g2).trans (h2.2.1 q g1 g2), fun z hz => by
          rcases List.mem_append.mp hz with h | h
          · exact h2.2.2 z h
          · exact hL z h⟩ h3)
    obtain ⟨t2, a1, b1⟩ := kx T' rfl X'
    exact ⟨t2, stp.trans a1, b1⟩
/-- the law's wrappers: a body with handlers that always returns -/
def Th (K : KC) (E : GE) (l : Launch) (y : MethodName) (cc : ByteArray) (maxL : Nat) (ret : Option FieldType) (hh : List (Nat × Nat × Nat × Nat)) (dep mc ms : Nat) (av : List Value) (w : Wd) (Post : Option Value → Wd → Prop) : Prop :=
  vx_Met l y (Cond.codeWith y cc maxL ret hh :: GT) (rmD dep mc ms) (PcX K E av w) (Qs E Post) (fun _ _ _ => False) mc ms (gA E)
theorem th_intro {K : KC} {E : GE} {l : Launch} {y : MethodName} {cc : ByteArray} {maxL : Nat} {ret : Option FieldType} {hh : List (Nat × Nat × Nat × Nat)} {dep mc ms : Nat} {av : List Value} {w : Wd} {Post : Option Value → Wd → Prop} (L : List (Option Value)) (hL : lA av maxL = L) (hle : (lg_sl av).length ≤ maxL) (hy : plainName y.cls = true)
    (body : ∀ X : XT, CX E X y.cls cc maxL ret → HT K E (xs X) (xs X).heap → HX (xs X) → ((xR X).frames = dep ∧ (xR X).locals = 64 * dep ∧ (xR X).cells = mc ∧ (xR X).slots = ms) → xl X = l → (xc X).exceptionTable.toList = tableOf hh → RQ E X mc ms Post → G E X maxL 0 L [] w 0 0) : Th K E l y cc maxL ret hh dep mc ms av w Post := by
  refine vx_ofWH (cc := cc) (maxL := maxL) (ret := ret) (hh := hh) hy rfl ?_
  intro p e s m args below meth c s₁ B hml hv
  obtain ⟨⟨rfl, hw, hK, hb, hT⟩, hH⟩ := hv
  have hts := atoms_spec (ws := Cond.codeWith y cc maxL ret hh :: GT) B.pre
  have b := body (p, l, e, rmD dep mc ms, s, m, av.toArray, below, meth, c, MQ below (Qs E Post) av.toArray s mc ms (gA E))
    ⟨B.exec, B.bytes, hml, B.returns, B.notSynchronized, findClass_of_methodNamed B.named, fun w h => hts w (List.mem_cons_of_mem _ h), hK, hb⟩ hT hH ⟨rfl, rfl, rfl, rfl⟩ rfl (vx_table (x := y) B (hts _ List.mem_cons_self)) rfl
  refine vx_ret ?_
  rw [lg_entry_eq]
  refine b s.heap [] _ hw va_S.rf ⟨(lv_entry av hle).1, (lv_entry av hle).2.1, fun i v h => ?_⟩
  subst hL
  unfold lA at h
  rw [List.getElem?_map] at h
  cases hx : (lg_sl av ++ List.replicate (maxL - (lg_sl av).length) Slot.unset)[i]? with
  | none => rw [hx] at h; cases h
  | some sl =>
    rw [hx] at h
    cases sl with
    | val u =>
      simp [slV] at h
      subst h
      rw [List.getElem?_toArray]
      exact hx
    | _ => simp [slV] at h
theorem x_callH {K : KC} {E X own cc nL ret pc L st st0 w k n} (C : CX E X own cc nL ret) (hT : HT K E (xs X) (xs X).heap) (hH : HX (xs X)) {y : MethodName} {bytes : ByteArray} {maxL : Nat} {rt : Option FieldType} {hh : List (Nat × Nat × Nat × Nat)} {dep mc ms index nA : Nat} {av : List Value} {Post : Option Value → Wd → Prop} (hS : Th K E (xl X) y bytes maxL rt hh dep mc ms av w Post)
    (ml : Cond.methodLink own index y ∈ GT) (sm : Cond.static y ∈ GT) (ini : Cond.initialized y.cls ∈ GT) (co : Cond.codeWith y bytes maxL rt hh ∈ GT)
    (hd : y.cls ≠ "java/lang/invoke/MethodHandle" ∧ y.cls ≠ "java/lang/invoke/VarHandle" ∧ (parseMethodDescriptor y.desc).map (fun d => d.parameters.length) = some nA) (hA : av.length = nA)
    (hR : dep + 1 ≤ (xR X).frames ∧ 8 + (maxL + 11) + 64 * dep ≤ (xR X).locals) (hst : st0 = av.reverse ++ st) (hcat : (st.map fun v => v.category).sum ≤ 8) (hf : k + mc ≤ (xR X).cells ∧ n + ms ≤ (xR X).slots) (d : decode cc pc = .ok (.invokestatic index, 3))
    (kk : ∀ v w', Post v w' → G E X nL (pc + 3) L (v.toList ++ st) w' (k + mc) (n + ms)) : G E X nL pc L st0 w k n := by
  intro H locs ls h1 h2 h3 T hT0 Y
  have hr := vx_runSX (Ts := GT) ⟨C.ex, C.co, C.ml, C.ow, C.ts⟩ hS (vx_cwSW (hh := hh) nA C.ts (gt_gi (fun w hw => by
      rcases List.mem_append.mp hw with h | h
      · simp only [List.mem_cons, List.not_mem_nil, or_false] at h
        rcases h with rfl | rfl | rfl
        · exact ml
        · exact sm
        · exact ini
      · rcases List.mem_cons.mp h with rfl | h
        · exact co
        · exact h)) rfl rfl rfl hd hR)
    ⟨px_blind, fun U hU hW => ⟨t_pre C hT h1 h2 U hU hW, HX.warm hW hH⟩⟩ (g := F0 (xm X) pc ls st0) rfl hA h3.1 hst (lv_room hcat) d hf T hT0 Y
  rcases hr with ⟨v, st₀, t, T', L9, h0, X', hL, e1, e2, ⟨⟨v', w', hv, hp, hw⟩, hz, hkp⟩, stp⟩ | ⟨q, st₀, t, T', L9, Ecl, ce, h0, X', hL, e1, e2, hF, -⟩
  · cases hv
    rw [h0] at hz hkp
    rw [← e1] at hw hz hkp
    obtain ⟨t2, a1, b1⟩ := kk v w' hp T'.heap (locs ++ L9) ls hw ⟨Nat.le_trans h2.1 hz, fun q g1 g2 => (hkp q (Nat.lt_of_lt_of_le g1 h2.1) g2).trans (h2.2.1 q g1 g2), fun q hq => by
        rcases List.mem_append.mp hq with h | h
        · exact h2.2.2 q h
        · exact hL q h⟩ h3 T' rfl X'
    exact ⟨t2, stp t2 a1, b1⟩
  · exact hF.elim
