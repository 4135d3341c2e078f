/-! texts' surroundings: constants, statics; contracts of methods that need them -/
abbrev KC : Type := (Nat → Nat) × (Nat → Nat) × Nat × Nat
def kTx : List (String × Nat × String) := [("RootwalkModel", 165, ""), ("RootwalkModel", 220, " "), ("RootwalkModel", 84, "0"), ("RootwalkModel", 93, "0123456789abcdef"), ("Rootwalk", 182, ""), ("Rootwalk", 343, "not 0 to 2"), ("Rootwalk", 350, "out of its range"), ("Rootwalk", 353, "a square is not a BASE")]
def kBy : Nat → List Int32
  | 0 => []
  | 1 => [32]
  | 2 => [48]
  | _ => [48, 49, 50, 51, 52, 53, 54, 55, 56, 57, 97, 98, 99, 100, 101, 102]
/-- private members of nest mates (out of the Statement's tables; made by hand for each landing) -/
def nWs : List (String × Nat × MethodName × String) := [("Rootwalk$Fraction", 30, ⟨"Rootwalk$Whole", "<init>", "()V"⟩, "Rootwalk"), ("Rootwalk", 36, ⟨"Rootwalk$Desk", "<init>", "()V"⟩, "Rootwalk"), ("Rootwalk$Desk", 11, ⟨"Rootwalk$Whole", "<init>", "()V"⟩, "Rootwalk"), ("Rootwalk$Pair", 17, ⟨"Rootwalk$Whole", "<init>", "()V"⟩, "Rootwalk"), ("Rootwalk$Split", 26, ⟨"Rootwalk", "restOfPower", "(III)I"⟩, "Rootwalk"), ("Rootwalk", 60, ⟨"Rootwalk$Walk", "<init>", "()V"⟩, "Rootwalk"), ("Rootwalk$Fraction", 35, ⟨"Rootwalk", "rootOf", "(I)I"⟩, "Rootwalk"), ("Rootwalk$Split", 55, ⟨"Rootwalk", "rest", "(JI)I"⟩, "Rootwalk"), ("RootwalkLaw", 173, ⟨"RootwalkLaw$Out", "<init>", "()V"⟩, "RootwalkLaw")]
def HT (K : KC) (E : GE) (U : State) (H : Heap) : Prop :=
  (∀ i t, kTx[i]? = some t → vk_R t.1 t.2.1 t.2.2 (K.1 i) U) ∧
  (∀ i, i < 4 → vk_S 1 [(kBy i).length] [kBy i] (fun _ => K.1 i) (fun _ => K.2.1 i) (gA E) U H) ∧
  va_Z "java/lang/String" "COMPACT_STRINGS" "Z" (.int 1) (gA E) U H ∧
  va_Zq "jdk/internal/util/Preconditions" "SIOOBE_FORMATTER" "Ljava/util/function/BiFunction;" (gA E) U H ∧
  (va_Z "java/lang/Integer" "DigitOnes" "[B" (.ref K.2.2.1) (gA E) U H ∧ ∃ d : Nat → Int32, va_T .byte K.2.2.1 100 (fun j => .int (d j)) (gA E) U H) ∧
  (va_Z "java/lang/Integer" "DigitTens" "[B" (.ref K.2.2.2) (gA E) U H ∧ ∃ d : Nat → Int32, va_T .byte K.2.2.2 100 (fun j => .int (d j)) (gA E) U H) ∧
  vx_Zq Bundle.tN "UNASSIGNED_STACK" Bundle.steD (gA E) U H ∧ vx_Zq Bundle.tN "SUPPRESSED_SENTINEL" Bundle.listD (gA E) U H ∧
  (∀ (i : Nat) (q : String × Nat × MethodName × String), nWs[i]? = some q → va_Nw (.methodLinkNest q.1 q.2.1 q.2.2.1 q.2.2.2) U)
theorem HT.warm {K : KC} {E : GE} {u U : State} {H : Heap} (hW : u.WarmedH U.vm) (h : HT K E u H) : HT K E U H := by
  obtain ⟨h1, h2, h3, h4, ⟨h5, d5, h5'⟩, ⟨h6, d6, h6'⟩, h7, h8, h9⟩ := h
  have hvm := hW.alike
  exact ⟨fun i t ht => vk_R.warm hW (h1 i t ht), fun i hi => vk_S.moved hvm (h2 i hi), va_Z.moved hvm h3, va_Zq.moved hvm h4, ⟨va_Z.moved hvm h5, d5, va_T.moved hvm h5'⟩, ⟨va_Z.moved hvm h6, d6, va_T.moved hvm h6'⟩, vx_Zq.moved hvm h7, vx_Zq.moved hvm h8, fun i q hi => va_Nw.warmM hW (h9 i q hi)⟩
theorem HT.kept {K : KC} {E : GE} {U : State} {H H1 : Heap} (h : HT K E U H) (hq : ∀ a : Nat, a < H.size → ¬ gA E a → H1[a]? = H[a]?) : HT K E U H1 := by
  obtain ⟨h1, h2, h3, h4, ⟨h5, d5, h5'⟩, ⟨h6, d6, h6'⟩, h7, h8, h9⟩ := h
  exact ⟨h1, fun i hi => (h2 i hi).kept hq, h3.kept hq, h4.kept hq, ⟨h5.kept hq, d5, h5'.kept hq⟩, ⟨h6.kept hq, d6, h6'.kept hq⟩, h7.kept hq, h8.kept hq, h9⟩
theorem HT.same {K : KC} {E : GE} {u U : State} {H : Heap} (hv : U.vm = u.vm) (h : HT K E u H) : HT K E U H := by
  obtain ⟨h1, h2, h3, h4, ⟨h5, d5, h5'⟩, ⟨h6, d6, h6'⟩, h7, h8, h9⟩ := h
  have hvm : u.vm.Alike U.vm := by rw [hv]; exact Vm.Alike.refl _
  exact ⟨fun i t ht => vk_R.same hv (h1 i t ht), fun i hi => vk_S.moved hvm (h2 i hi), va_Z.moved hvm h3, va_Zq.moved hvm h4, ⟨va_Z.moved hvm h5, d5, va_T.moved hvm h5'⟩, ⟨va_Z.moved hvm h6, d6, va_T.moved hvm h6'⟩, vx_Zq.moved hvm h7, vx_Zq.moved hvm h8, fun i q hi => va_Nw.same rfl hv.symm (h9 i q hi)⟩
def PcT (K : KC) (E : GE) (av : List Value) (w : Wd) : Array Value → State → Prop := va_Pc av (fun U => wOk E w U.heap ∧ KT E U ∧ E.2.2 ≤ U.heap.size ∧ HT K E U U.heap)
theorem pt_blind {K : KC} {E : GE} {w : Wd} {av : List Value} : FrameBlind (PcT K E av w) :=
  fun a U g mk q => by
    obtain ⟨q0, q1, q2, q3, q4⟩ := q
    exact ⟨q0, q1, KT.moved (u := U) (U := U.calling g mk a) (Vm.Alike.refl U.vm) q2, q3, HT.same (u := U) rfl q4⟩
def St (K : KC) (E : GE) (l : Launch) (y : MethodName) (cc : ByteArray) (maxL : Nat) (ret : Option FieldType) (dep mc ms : Nat) (av : List Value) (w : Wd) (Post : Option Value → Wd → Prop) : Prop :=
  Met l y (Cond.code y cc maxL ret :: GT) (rmD dep mc ms) (PcT K E av w) (Qs E Post) mc ms (gA E)
theorem st_intro {K : KC} {E : GE} {l : Launch} {y : MethodName} {cc : ByteArray} {maxL : Nat} {ret : Option FieldType} {dep mc ms : Nat} {av : List Value} {w : Wd} {Post : Option Value → Wd → Prop} (L : List (Option Value)) (hL : lA av maxL = L) (hle : (lg_sl av).length ≤ maxL) (hy : plainName y.cls = true)
    (body : ∀ X : XT, CX E X y.cls cc maxL ret → HT K E (xs X) (xs X).heap → ((xR X).frames = dep ∧ (xR X).locals = 64 * dep ∧ (xR X).cells = mc ∧ (xR X).slots = ms) → xl X = l → (xmeth X).name = y.name → RQ E X mc ms Post → G E X maxL 0 L [] w 0 0) : St K E l y cc maxL ret dep mc ms av w Post := by
  refine Met.ofW (cc := cc) (maxL := maxL) (ret := ret) hy rfl ?_
  intro p e s m args below meth c s₁ B hml hv
  obtain ⟨rfl, hw, hK, hb, hT⟩ := hv
  have hts := atoms_spec (ws := Cond.code y cc maxL ret :: GT) B.pre
  have b := body (p, l, e, rmD dep mc ms, s, m, av.toArray, below, meth, c, MQ below (Qs E Post) av.toArray s mc ms (gA E))
    ⟨B.exec, B.bytes, hml, B.returns, B.notSynchronized, findClass_of_methodNamed B.named, fun w h => hts w (List.mem_cons_of_mem _ h), hK, hb⟩ hT ⟨rfl, rfl, rfl, rfl⟩ rfl (name_of_methodNamed B.named B.method).1 rfl
  rw [lg_entry_eq]
  refine b s.heap [] _ hw va_S.rf ⟨(lv_entry av hle).1, (lv_entry av hle).2.1, fun i v h => ?_⟩
  subst hL
  unfold lA at h
  rw [List.getElem?_map] at h
  cases hx : (lg_sl av ++ List.replicate (maxL - (lg_sl av).length) Slot.unset)[i]? with
  | none => rw [hx] at h; cases h
  | some sl =>
    rw [hx] at h
    cases sl with
    | val u =>
      simp [slV] at h
      subst h
      rw [List.getElem?_toArray]
      exact hx
    | _ => simp [slV] at h
/-- a contract without surroundings serves within them -/
theorem Sp.st {K : KC} {E : GE} {l : Launch} {y : MethodName} {cc : ByteArray} {maxL : Nat} {ret : Option FieldType} {dep mc ms : Nat} {av : List Value} {w : Wd} {Post : Option Value → Wd → Prop} (h : Sp E l y cc maxL ret dep mc ms av w Post) : St K E l y cc maxL ret dep mc ms av w Post := by
  intro p e h1 h2 h3 s m args below h4 h5 h6
  exact h p e h1 h2 h3 s m args below h4 h5 ⟨h6.1, h6.2.1, h6.2.2.1, h6.2.2.2.1⟩
theorem t_pre {K : KC} {E : GE} {X : XT} {own cc nL ret} (C : CX E X own cc nL ret) (hT : HT K E (xs X) (xs X).heap) {H : Heap} {locs : List Loc} {w : Wd} (h1 : wOk E w H) (h2 : va_S (gA E) (xs X).heap H locs) {av : List Value} (U : State) (hU : U.heap = H) (hW : (xs X).WarmedH U.vm) : PcT K E av w av.toArray U :=
  ⟨rfl, by rw [hU]; exact h1, C.kt.moved hW.alike, by rw [hU]; exact Nat.le_trans C.bs h2.1, by rw [hU]; exact HT.warm hW (hT.kept h2.2.1)⟩
theorem t_callS {K : KC} {E X own cc nL ret pc L st st0 w k n} (C : CX E X own cc nL ret) (hT : HT K E (xs X) (xs X).heap) {y : MethodName} {bytes : ByteArray} {maxL : Nat} {rt : Option FieldType} {dep mc ms index nA : Nat} {av : List Value} {Post : Option Value → Wd → Prop} (hS : St K E (xl X) y bytes maxL rt dep mc ms av w Post)
    (ml : Cond.methodLink own index y ∈ GT) (sm : Cond.static y ∈ GT) (ini : Cond.initialized y.cls ∈ GT) (co : Cond.code y bytes maxL rt ∈ GT)
    (hd : y.cls ≠ "java/lang/invoke/MethodHandle" ∧ y.cls ≠ "java/lang/invoke/VarHandle" ∧ (parseMethodDescriptor y.desc).map (fun d => d.parameters.length) = some nA) (hA : av.length = nA)
    (hR : dep + 1 ≤ (xR X).frames ∧ 8 + (maxL + 11) + 64 * dep ≤ (xR X).locals) (hst : st0 = av.reverse ++ st) (hcat : (st.map fun v => v.category).sum ≤ 8) (hf : k + mc ≤ (xR X).cells ∧ n + ms ≤ (xR X).slots) (d : decode cc pc = .ok (.invokestatic index, 3))
    (kk : ∀ v w', Post v w' → G E X nL (pc + 3) L (v.toList ++ st) w' (k + mc) (n + ms)) : G E X nL pc L st0 w k n := by
  refine g_run (a := av.toArray) C (fun H locs ls h1 h2 h3 => ?_) kk
  exact va_runS (Ts := GT) ⟨C.ex, C.co, C.ml, C.ow, C.ts⟩ hS (va_cwS nA C.ts (gt_gi (fun w hw => by
      rcases List.mem_append.mp hw with h | h
      · simp only [List.mem_cons, List.not_mem_nil, or_false] at h
        rcases h with rfl | rfl | rfl
        · exact ml
        · exact sm
        · exact ini
      · rcases List.mem_cons.mp h with rfl | h
        · exact co
        · exact h)) rfl rfl rfl hd hR)
    ⟨pt_blind, fun U hU hW => t_pre C hT h1 h2 U hU hW⟩ rfl hA h3.1 hst (lv_room hcat) d hf
/-- an object at an address, of a class -/
def RcV (E : GE) (X : XT) (w : Wd) (cl : String) (a : Nat) : Prop := ∀ (H : Heap) (locs : List Loc), wOk E w H → va_S (gA E) (xs X).heap H locs → ∃ cell : Cell, H[a]? = some cell ∧ cell.vm.isStatics = false ∧ (xs X).vm.findClass cl = some cell.cls
theorem RcV.ob {E X own cc nL ret} (C : CX E X own cc nL ret) {w : Wd} {ci : Nat} {q : vw_C} {a : Nat} {b : Bool} {fs : List Value} (hc : clz[ci]? = some q) (ha : w.2 a = some (b, eO ci fs)) : RcV E X w q.1 a := fun H locs h1 h2 => w_recv C.kt h1 hc ha
theorem RcV.k {K : KC} {E : GE} {X : XT} {w : Wd} (hT : HT K E (xs X) (xs X).heap) {i : Nat} (hi : i < 4) : RcV E X w "java/lang/String" (K.1 i) := fun H locs h1 h2 => vk_recv (i := 0) (hT.2.1 i hi) (by decide) h2
theorem t_callV {K : KC} {E X own cc nL ret pc L st st0 w k n} (C : CX E X own cc nL ret) (hT : HT K E (xs X) (xs X).heap) {y : MethodName} {bytes : ByteArray} {maxL : Nat} {rt : Option FieldType} {dep mc ms index nA : Nat} {a : Nat} {av : List Value} {Post : Option Value → Wd → Prop} (hS : St K E (xl X) y bytes maxL rt dep mc ms (.ref a :: av) w Post)
    {cl : String} (ha : RcV E X w cl a) (hy : y.cls = cl)
    (ml : Cond.methodLink own index y ∈ GT) (im : Cond.instanceMethod y ∈ GT) (se : Cond.selects cl y y ∈ GT) (ini : Cond.initialized cl ∈ GT) (co : Cond.code y bytes maxL rt ∈ GT)
    (hd : y.cls ≠ "java/lang/invoke/MethodHandle" ∧ y.cls ≠ "java/lang/invoke/VarHandle" ∧ (parseMethodDescriptor y.desc).map (fun d => d.parameters.length) = some nA) (hA : av.length = nA)
    (hR : dep + 1 ≤ (xR X).frames ∧ 8 + (maxL + 11) + 64 * dep ≤ (xR X).locals) (hst : st0 = av.reverse ++ .ref a :: st) (hcat : (st.map fun v => v.category).sum ≤ 8) (hf : k + mc ≤ (xR X).cells ∧ n + ms ≤ (xR X).slots) (d : decode cc pc = .ok (.invokevirtual index, 3))
    (kk : ∀ v w', Post v w' → G E X nL (pc + 3) L (v.toList ++ st) w' (k + mc) (n + ms)) : G E X nL pc L st0 w k n := by
  refine g_run (a := (Value.ref a :: av).toArray) C (fun H locs ls h1 h2 h3 => ?_) kk
  exact va_runV (C := cl) (Ts := GT) ⟨C.ex, C.co, C.ml, C.ow, C.ts⟩ hS (cwV nA C.ts (gt_gi (fun w hw => by
      rcases List.mem_append.mp hw with h | h
      · simp only [List.mem_cons, List.not_mem_nil, or_false] at h
        rcases h with rfl | rfl | rfl | rfl
        · exact ml
        · exact im
        · exact se
        · exact ini
      · rcases List.mem_cons.mp h with rfl | h
        · exact co
        · exact h)) rfl rfl rfl ⟨hy, hd⟩ hR)
    ⟨pt_blind, ha H locs h1 h2, fun U hU hW => t_pre C hT h1 h2 U hU hW⟩ rfl hA h3.1 hst (lv_room hcat) d hf
theorem t_callI {K : KC} {E X own cc nL ret pc L st st0 w k n} (C : CX E X own cc nL ret) (hT : HT K E (xs X) (xs X).heap) {y : MethodName} {bytes : ByteArray} {maxL : Nat} {dep mc ms index nA : Nat} {a : Nat} {av : List Value} {Post : Option Value → Wd → Prop} (hS : St K E (xl X) y bytes maxL none dep mc ms (.ref a :: av) w Post)
    (ml : Cond.methodLink own index y ∈ GT) (im : Cond.instanceMethod y ∈ GT) (ini : Cond.initialized y.cls ∈ GT) (co : Cond.code y bytes maxL none ∈ GT) (hy : y.name = "<init>")
    (hd : y.cls ≠ "java/lang/invoke/MethodHandle" ∧ y.cls ≠ "java/lang/invoke/VarHandle" ∧ (parseMethodDescriptor y.desc).map (fun d => d.parameters.length) = some nA) (hA : av.length = nA)
    (hR : dep + 1 ≤ (xR X).frames ∧ 8 + (maxL + 11) + 64 * dep ≤ (xR X).locals) (hst : st0 = av.reverse ++ .ref a :: st) (hcat : (st.map fun v => v.category).sum ≤ 8) (hf : k + mc ≤ (xR X).cells ∧ n + ms ≤ (xR X).slots) (d : decode cc pc = .ok (.invokespecial index, 3))
    (kk : ∀ v w', Post v w' → G E X nL (pc + 3) L (v.toList ++ st) w' (k + mc) (n + ms)) : G E X nL pc L st0 w k n := by
  refine g_run (a := (Value.ref a :: av).toArray) C (fun H locs ls h1 h2 h3 => ?_) kk
  exact va_runI (Ts := GT) ⟨C.ex, C.co, C.ml, C.ow, C.ts⟩ hS (cwI nA C.ts (gt_gi (fun w hw => by
      rcases List.mem_cons.mp hw with rfl | h
      · exact co
      · exact h)) rfl rfl rfl (C.ts _ ini) (C.ts _ ml) (C.ts _ im) hy hd hR)
    ⟨pt_blind, fun U hU hW => t_pre C hT h1 h2 U hU hW⟩ rfl hA h3.1 hst (lv_room hcat) d hf
/-- a superclass's own method, by a plain call -/
theorem t_callU {K : KC} {E X own cc nL ret pc L st st0 w k n} (C : CX E X own cc nL ret) (hT : HT K E (xs X) (xs X).heap) {x y : MethodName} {owner : String} {bytes : ByteArray} {maxL : Nat} {rt : Option FieldType} {dep mc ms index nA : Nat} {a : Nat} {av : List Value} {Post : Option Value → Wd → Prop} (hS : St K E (xl X) y bytes maxL rt dep mc ms (.ref a :: av) w Post)
    {cl : String} (ha : RcV E X w cl a) (hyx : y = ⟨owner, x.name, x.desc⟩)
    (ml : Cond.methodLink own index x ∈ GT) (sa : Cond.sameMethod x.cls owner x.name x.desc ∈ GT) (se : Cond.selects cl x y ∈ GT) (im : Cond.instanceMethod y ∈ GT) (ini : Cond.initialized y.cls ∈ GT) (co : Cond.code y bytes maxL rt ∈ GT)
    (hd : owner ≠ "java/lang/invoke/MethodHandle" ∧ owner ≠ "java/lang/invoke/VarHandle" ∧ (parseMethodDescriptor x.desc).map (fun d => d.parameters.length) = some nA) (hA : av.length = nA)
    (hR : dep + 1 ≤ (xR X).frames ∧ 8 + (maxL + 11) + 64 * dep ≤ (xR X).locals) (hst : st0 = av.reverse ++ .ref a :: st) (hcat : (st.map fun v => v.category).sum ≤ 8) (hf : k + mc ≤ (xR X).cells ∧ n + ms ≤ (xR X).slots) (d : decode cc pc = .ok (.invokevirtual index, 3))
    (kk : ∀ v w', Post v w' → G E X nL (pc + 3) L (v.toList ++ st) w' (k + mc) (n + ms)) : G E X nL pc L st0 w k n := by
  refine g_run (a := (Value.ref a :: av).toArray) C (fun H locs ls h1 h2 h3 => ?_) kk
  exact va_runU (C := cl) (Ts := GT) ⟨C.ex, C.co, C.ml, C.ow, C.ts⟩ hS (va_cwU nA C.ts (gt_gi (fun w hw => by
      unfold va_wsU at hw
      rcases List.mem_append.mp hw with h | h
      · simp only [List.mem_cons, List.not_mem_nil, or_false] at h
        rcases h with rfl | rfl | rfl | rfl | rfl
        · exact ml
        · exact sa
        · exact se
        · exact im
        · exact ini
      · rcases List.mem_cons.mp h with rfl | h
        · exact co
        · exact h)) rfl rfl rfl hyx hd hR)
    ⟨pt_blind, ha H locs h1 h2, fun U hU hW => t_pre C hT h1 h2 U hU hW⟩ rfl hA h3.1 hst (lv_room hcat) d hf
theorem t_callO {K : KC} {E X own cc nL ret pc L st st0 w k n} (C : CX E X own cc nL ret) (hT : HT K E (xs X) (xs X).heap) {x y : MethodName} {owner : String} {bytes : ByteArray} {maxL : Nat} {rt : Option FieldType} {dep mc ms index nA : Nat} {a : Nat} {av : List Value} {Post : Option Value → Wd → Prop} (hS : St K E (xl X) y bytes maxL rt dep mc ms (.ref a :: av) w Post)
    {cl : String} (ha : RcV E X w cl a)
    (ml : Cond.methodLink own index x ∈ GT) (sa : Cond.sameMethod x.cls owner x.name x.desc ∈ GT) (imx : Cond.instanceMethod ⟨owner, x.name, x.desc⟩ ∈ GT) (se : Cond.selects cl x y ∈ GT) (im : Cond.instanceMethod y ∈ GT) (ini : Cond.initialized y.cls ∈ GT) (co : Cond.code y bytes maxL rt ∈ GT) {bytesx : ByteArray} {maxLx : Nat} {rtx : Option FieldType} (cox : Cond.code ⟨owner, x.name, x.desc⟩ bytesx maxLx rtx ∈ GT)
    (hd : owner ≠ "java/lang/invoke/MethodHandle" ∧ owner ≠ "java/lang/invoke/VarHandle" ∧ (parseMethodDescriptor x.desc).map (fun d => d.parameters.length) = some nA) (hA : av.length = nA)
    (hR : dep + 1 ≤ (xR X).frames ∧ 8 + (maxL + 11) + 64 * dep ≤ (xR X).locals) (hst : st0 = av.reverse ++ .ref a :: st) (hcat : (st.map fun v => v.category).sum ≤ 8) (hf : k + mc ≤ (xR X).cells ∧ n + ms ≤ (xR X).slots) (d : decode cc pc = .ok (.invokevirtual index, 3))
    (kk : ∀ v w', Post v w' → G E X nL (pc + 3) L (v.toList ++ st) w' (k + mc) (n + ms)) : G E X nL pc L st0 w k n := by
  refine g_run (a := (Value.ref a :: av).toArray) C (fun H locs ls h1 h2 h3 => ?_) kk
  exact va_runU (C := cl) (Ts := GT) ⟨C.ex, C.co, C.ml, C.ow, C.ts⟩ hS (va_cwO nA C.ts (gt_gi (fun w hw => by
      unfold va_wsO at hw
      rcases List.mem_append.mp hw with h | h
      · simp only [List.mem_cons, List.not_mem_nil, or_false] at h
        rcases h with rfl | rfl | rfl | rfl | rfl | rfl
        · exact ml
        · exact sa
        · exact imx
        · exact se
        · exact im
        · exact ini
      · rcases List.mem_cons.mp h with rfl | h
        · exact co
        · exact h)) rfl rfl rfl cox hd hR)
    ⟨pt_blind, ha H locs h1 h2, fun U hU hW => t_pre C hT h1 h2 U hU hW⟩ rfl hA h3.1 hst (lv_room hcat) d hf
/-- super.m(..) -/
theorem t_callP {K : KC} {E X own cc nL ret pc L st st0 w k n} (C : CX E X own cc nL ret) (hT : HT K E (xs X) (xs X).heap) {y : MethodName} {bytes : ByteArray} {maxL : Nat} {rt : Option FieldType} {dep mc ms index nA : Nat} {a : Nat} {av : List Value} {Post : Option Value → Wd → Prop} (hS : St K E (xl X) y bytes maxL rt dep mc ms (.ref a :: av) w Post)
    {ci : Nat} {q : vw_C} {b : Bool} {fs : List Value} (hc : clz[ci]? = some q) (ha : w.2 a = some (b, eO ci fs))
    (ml : Cond.methodLink own index y ∈ GT) (sa : Cond.sameMethod y.cls y.cls y.name y.desc ∈ GT) (su : Cond.superclass own y.cls ∈ GT) (im : Cond.instanceMethod y ∈ GT) (ini : Cond.initialized y.cls ∈ GT) (co : Cond.code y bytes maxL rt ∈ GT)
    (hd : y.name ≠ "<init>" ∧ (parseMethodDescriptor y.desc).map (fun d => d.parameters.length) = some nA) (hA : av.length = nA)
    (hR : dep + 1 ≤ (xR X).frames ∧ 8 + (maxL + 11) + 64 * dep ≤ (xR X).locals) (hst : st0 = av.reverse ++ .ref a :: st) (hcat : (st.map fun v => v.category).sum ≤ 8) (hf : k + mc ≤ (xR X).cells ∧ n + ms ≤ (xR X).slots) (d : decode cc pc = .ok (.invokespecial index, 3))
    (kk : ∀ v w', Post v w' → G E X nL (pc + 3) L (v.toList ++ st) w' (k + mc) (n + ms)) : G E X nL pc L st0 w k n := by
  refine g_run (a := (Value.ref a :: av).toArray) C (fun H locs ls h1 h2 h3 => ?_) kk
  obtain ⟨hS9, hfc, kC, hkC, hkind⟩ := C.kt.1.1 ci _ hc
  have hrc := w_recv C.kt h1 hc ha
  obtain ⟨cell, e1, e2, e3⟩ := hrc
  refine va_runSU (C := q.1) (cC := cell.cls) ⟨e3, ?_⟩ (Ts := GT) ⟨C.ex, C.co, C.ml, C.ow, C.ts⟩ hS (va_cwSU nA C.ts (gt_gi (fun w hw => by
      unfold va_wsSU at hw
      rcases List.mem_append.mp hw with h | h
      · simp only [List.mem_cons, List.not_mem_nil, or_false] at h
        rcases h with rfl | rfl | rfl | rfl | rfl
        · exact ml
        · exact sa
        · exact su
        · exact im
        · exact ini
      · rcases List.mem_cons.mp h with rfl | h
        · exact co
        · exact h)) rfl rfl rfl hd hR)
    ⟨pt_blind, ⟨cell, e1, e2, e3⟩, fun U hU hW => t_pre C hT h1 h2 U hU hW⟩ rfl hA h3.1 hst (lv_room hcat) d hf
  have hcc : E.1.1 ci = cell.cls := Option.some.inj (hfc.symm.trans e3)
  exact ⟨kC, by rw [← hcc]; exact hkC, hkind⟩
/-! rows on constants and statics -/
theorem g_ldcS {K : KC} {E X own cc nL ret pc L st w k n} (C : CX E X own cc nL ret) (hT : HT K E (xs X) (xs X).heap) (i : Nat) {index : Nat} {tx : String} (hi : kTx[i]? = some (own, index, tx)) (d : decode cc pc = .ok (.ldc index, 2)) (kk : G E X nL (pc + 2) L (.ref (K.1 i) :: st) w k n) : G E X nL pc L st w k n :=
  fun H locs ls h1 h2 h3 => va_ldcS C.ex C.co C.ow (hT.1 i (own, index, tx) hi) d (kk H locs ls h1 h2 h3)
theorem g_gets {E X own cc nL ret pc L st w k n} (C : CX E X own cc nL ret) {Cn nm ds : String} {v : Value} {index : Nat} (hZ : va_Z Cn nm ds v (gA E) (xs X) (xs X).heap) (fl : Cond.fieldLink own index Cn nm ds ∈ GT) (d : decode cc pc = .ok (.getstatic index, 3)) (kk : G E X nL (pc + 3) L (v :: st) w k n) : G E X nL pc L st w k n :=
  fun H locs ls h1 h2 h3 => va_gets C.ex C.co hZ h2 C.ow (C.ts _ fl) (fun _ h => h) d (kk H locs ls h1 h2 h3)
theorem g_kval {K : KC} {E X own cc nL ret pc L st w k n} (C : CX E X own cc nL ret) (hT : HT K E (xs X) (xs X).heap) {i : Nat} (hi : i < 4) {index : Nat} (fl : Cond.fieldLink own index "java/lang/String" "value" "[B" ∈ GT) (d : decode cc pc = .ok (.getfield index, 3)) (kk : G E X nL (pc + 3) L (.ref (K.2.1 i) :: st) w k n) : G E X nL pc L (.ref (K.1 i) :: st) w k n :=
  fun H locs ls h1 h2 h3 => vk_getf C.ex C.co ((hT.2.1 i hi).1 0 (by decide)).2.2.1 h2 C.ow (C.ts _ fl) (fun _ h => h) d (kk H locs ls h1 h2 h3)
theorem g_kcod {K : KC} {E X own cc nL ret pc L st w k n} (C : CX E X own cc nL ret) (hT : HT K E (xs X) (xs X).heap) {i : Nat} (hi : i < 4) {index : Nat} (fl : Cond.fieldLink own index "java/lang/String" "coder" "B" ∈ GT) (d : decode cc pc = .ok (.getfield index, 3)) (kk : G E X nL (pc + 3) L (iI 0 :: st) w k n) : G E X nL pc L (.ref (K.1 i) :: st) w k n :=
  fun H locs ls h1 h2 h3 => vk_getf C.ex C.co ((hT.2.1 i hi).1 0 (by decide)).2.1 h2 C.ow (C.ts _ fl) (fun _ h => h) d (kk H locs ls h1 h2 h3)
theorem g_tlen {E X own cc nL ret pc L st w k n} (C : CX E X own cc nL ret) {t N : Nat} {f : Nat → Value} (hX : va_T .byte t N f (gA E) (xs X) (xs X).heap) (d : decode cc pc = .ok (.arraylength, 1)) (kk : G E X nL (pc + 1) L (iI N :: st) w k n) : G E X nL pc L (.ref t :: st) w k n :=
  fun H locs ls h1 h2 h3 => va_tlen C.ex C.co hX h2 (show Int32.ofNat N = Int32.ofInt N from Int32.ofInt_eq_ofNat.symm) d (kk H locs ls h1 h2 h3)
theorem g_tbal {E X own cc nL ret pc L st w k n} (C : CX E X own cc nL ret) {t N : Nat} {f : Nat → Int32} {z : Int} (hX : va_T .byte t N (fun j => .int (f j)) (gA E) (xs X) (xs X).heap) (hz : 0 ≤ z ∧ z < N ∧ z < 2147483648) (d : decode cc pc = .ok (.baload, 1)) (kk : G E X nL (pc + 1) L (iI (f z.toNat).toInt :: st) w k n) : G E X nL pc L (iI z :: .ref t :: st) w k n :=
  fun H locs ls h1 h2 h3 => va_tb C.ex C.co hX h2 (i_in hz.1 hz.2.1 hz.2.2) (v := iI (f z.toNat).toInt) (by rw [i_nat hz.1 hz.2.2]; exact congrArg Value.int (i_of _)) d (kk H locs ls h1 h2 h3)
/-! bytes -/
def bF (f : Nat → Int) : Prop := ∀ i, -128 ≤ f i ∧ f i ≤ 127
theorem bF.fit {f : Nat → Int} (h : bF f) (i : Nat) : fits .byte (.int (Int32.ofInt (f i))) = true := by
  obtain ⟨h1, h2⟩ := h i
  have e : Int32.ofInt (f i) = (Int32.ofInt (f i)).toInt8.toInt32 := by
    rw [← Int32.toInt_inj, Int8.toInt_toInt32, Int32.toInt_toInt8, Int32.toInt_ofInt_of_le (by omega) (by omega)]
    rw [Int.bmod_eq_of_le (by omega) (by omega)]
  rw [e]
  exact pk_fb _
theorem bF.iup {f : Nat → Int} (h : bF f) (k : Nat) {x : Int} (hx : -128 ≤ x ∧ x ≤ 127) : bF (iup f k x) := by
  intro i
  by_cases q : i = k
  · rw [q, iup_s]; exact hx
  · rw [iup_n q]; exact h i
theorem bF.zero : bF (fun _ => 0) := fun _ => by show (-128 : Int) ≤ 0 ∧ (0 : Int) ≤ 127; omega
theorem b_nar (x : Int32) : ∃ y : Int, vp_nar .byte x = Int32.ofInt y ∧ -128 ≤ y ∧ y ≤ 127 := by
  refine ⟨x.toInt8.toInt, ?_, ?_, ?_⟩
  · show x.toInt8.toInt32 = _
    rw [← Int32.toInt_inj, Int8.toInt_toInt32, Int32.toInt_ofInt_of_le (by have := Int8.le_toInt x.toInt8; omega) (by have := Int8.toInt_lt x.toInt8; omega)]
  · exact Int8.le_toInt x.toInt8
  · have := Int8.toInt_lt x.toInt8; omega
theorem g_objInit {E X own cc nL ret pc L st w k n} (C : CX E X own cc nL ret) {a index : Nat} (ml : Cond.methodLink own index objectInit ∈ GT) (hf : 1 ≤ (xR X).frames) (hl : 64 ≤ (xR X).locals) (hcat : (st.map fun v => v.category).sum ≤ 8) (d : decode cc pc = .ok (.invokespecial index, 3)) (kk : G E X nL (pc + 3) L st w k n) : G E X nL pc L (.ref a :: st) w k n :=
  fun H locs ls h1 h2 h3 => W.objInit C.ex C.co C.ow (C.ts _ ml) (C.ts _ gw_instanceMethod_objectInit) (C.ts _ gw_code_objectInit_0xb1_1_none) (g := F0 (xm X) pc ls (.ref a :: st)) rfl (by rw [h3.1, C.ml]) rfl d hf (by show 2 * 0 + _ + 12 ≤ _; omega) (kk H locs ls h1 h2 h3)
def cpyI (f g : Nat → Int) (sp dp n : Nat) : Nat → Int := fun k => if dp ≤ k ∧ k < dp + n then f (sp + (k - dp)) else g k
theorem cpyI_of (f g : Nat → Int) (sp dp n : Nat) : va_cpy (fun j => Int32.ofInt (f j)) (fun j => Int32.ofInt (g j)) sp dp n = fun j => Int32.ofInt (cpyI f g sp dp n j) := by
  funext j
  unfold va_cpy cpyI
  split <;> rfl
theorem bF.cpy {f g : Nat → Int} (hf : bF f) (hg : bF g) (sp dp n : Nat) : bF (cpyI f g sp dp n) := by
  intro i
  unfold cpyI
  split
  · exact hf _
  · exact hg _
theorem i_ng {z : Int} (h0 : 0 ≤ z) (h1 : z < 2147483648) : ¬ Int32.ofInt z < 0 := by rw [i_0, i_lt (by omega) (by omega)]; omega
theorem i_tI {z : Int} (h0 : -2147483648 ≤ z) (h1 : z < 2147483648) : (Int32.ofInt z).toInt = z := Int32.toInt_ofInt_of_le (by omega) (by omega)
/-- System.arraycopy of bytes or of ints, both rows in the world -/
theorem g_acopyX {E X own cc nL ret pc L st w k n} (C : CX E X own cc nL ret) {a0 a n0 n1 : Nat} {b : Bool} {f g : Nat → Int} {sp dp m : Int} {index : Nat} (i : Nat) {ty : FieldType} {mk : Nat → (Nat → Int) → Ent} (hmk : ∀ N h, conc E (mk N h) = .inl (E.2.1 i, N, .inl (fun j => Int32.ofInt (h j)))) (hti : (tysOf E.2.1)[i]? = some (E.2.1 i, ty)) (hty : refKind ty = false)
    (h0 : w.2 a0 = some (b, mk n0 f)) (ha : w.2 a = some (true, mk n1 g)) (hs : 0 ≤ sp ∧ 0 ≤ dp ∧ 0 ≤ m ∧ sp + m ≤ n0 ∧ dp + m ≤ n1 ∧ n0 < 2147483648 ∧ n1 < 2147483648) (hfit : ∀ q, fits ty (.int (Int32.ofInt (f q))) = true)
    (ml : Cond.methodLink own index arraycopyName ∈ GT) (hf : 1 ≤ (xR X).frames) (hl : 64 ≤ (xR X).locals) (hcat : (st.map fun v => v.category).sum ≤ 8) (d : decode cc pc = .ok (.invokestatic index, 3))
    (kk : G E X nL (pc + 3) L st (wset w a (true, mk n1 (cpyI f g sp.toNat dp.toNat m.toNat))) k n) : G E X nL pc L (iI m :: iI dp :: .ref a :: iI sp :: .ref a0 :: st) w k n := by
  intro H locs ls h1 h2 h3 T hT Y
  obtain ⟨g1, -⟩ := h1.2 a0 b _ h0
  obtain ⟨g2, gb⟩ := h1.2 a true _ ha
  rw [hmk] at g1 g2
  have hc0 : H[a0]? = some (vp_cell (E.2.1 i) (n0, .inl (fun j => Int32.ofInt (f j)))) := g1
  have hc1 : H[a]? = some (vp_cell (E.2.1 i) (n1, .inl (fun j => Int32.ofInt (g j)))) := g2
  obtain ⟨-, k0, hk0, cm0, hkk0⟩ := (kt_i C.kt i hti).1 n0 (fun j => .int (Int32.ofInt (f j)))
  have es := i_nat (a := sp) hs.1 (by omega)
  have ed := i_nat (a := dp) hs.2.1 (by omega)
  have em := i_nat (a := m) hs.2.2.1 (by omega)
  obtain ⟨vm', X', step⟩ := Y.arraycopy C.ex C.ow (C.ts _ ml) (C.ts _ gw_native_arraycopyName) (C.ts _ gw_static_arraycopyName) (C.ts _ gw_initialized_java_lang_System) (src := a0) (dst := a) (cs := vp_cell (E.2.1 i) (n0, .inl (fun j => Int32.ofInt (f j)))) (cd := vp_cell (E.2.1 i) (n1, .inl (fun j => Int32.ofInt (g j)))) (srcPos := Int32.ofInt sp) (destPos := Int32.ofInt dp) (n := Int32.ofInt m) (by rw [hT]; exact hc0) (by rw [hT]; exact hc1)
    (fun _ h => by cases h) (fun _ h => by cases h) (fun h => by cases h) (fun h => by cases h) hk0 hk0 hkk0 hkk0 (by simp [hty]) (i_ng (by omega) (by omega)) (i_ng (by omega) (by omega)) (i_ng (by omega) (by omega))
    (by rw [i_tI (by omega) (by omega), i_tI (by omega) (by omega)]; show ¬ _ > ((arrV (E.2.1 i) n0 _).slots.size : Int); rw [arrV_size]; omega)
    (by rw [i_tI (by omega) (by omega), i_tI (by omega) (by omega)]; show ¬ _ > ((arrV (E.2.1 i) n1 _).slots.size : Int); rw [arrV_size]; omega)
    (fun vm₁ _ q hq => by
      rw [em] at hq
      have e : (vp_cell (E.2.1 i) (n0, .inl (fun j => Int32.ofInt (f j)))).slots.getD ((Int32.ofInt sp).toNatClampNeg + q) .null = .int (Int32.ofInt (f (sp.toNat + q))) := by
        rw [es]
        show (arrV (E.2.1 i) n0 (fun j => .int (Int32.ofInt (f j)))).slots.getD _ _ = _
        rw [Array.getD_eq_getD_getElem?, arrV_read _ _ (by omega)]
        rfl
      refine ⟨?_, ?_⟩
      · rw [e]
        exact hfit _
      · rw [e]
        exact trivial)
    (g := F0 (xm X) pc ls (iI m :: iI dp :: .ref a :: iI sp :: .ref a0 :: st)) rfl (by rw [h3.1, C.ml]) (rest := st) rfl (by rw [C.co]; exact d) hf (by show 2 * 0 + _ + (nativeFrameWords "java/lang/System" "arraycopy" 5 + 11) ≤ _; have : nativeFrameWords "java/lang/System" "arraycopy" 5 + 11 ≤ 56 := Nat.le_of_ble_eq_true rfl; omega)
  have e1 : copied (vp_cell (E.2.1 i) (n0, .inl (fun j => Int32.ofInt (f j)))) (vp_cell (E.2.1 i) (n1, .inl (fun j => Int32.ofInt (g j)))) (Int32.ofInt sp) (Int32.ofInt dp) (Int32.ofInt m) = vp_cell (E.2.1 i) (n1, .inl (fun j => Int32.ofInt (cpyI f g sp.toNat dp.toNat m.toNat j))) := by
    rw [← cpyI_of, ← es, ← ed, ← em]
    exact va_copied (fun z => .int z) (E.2.1 i) (E.2.1 i) (fun j => Int32.ofInt (f j)) (fun j => Int32.ofInt (g j)) (by rw [es, em]; omega)
  rw [e1] at X' step
  have hlt : a < H.size := (Array.getElem?_eq_some_iff.mp hc1).1
  have hheap : ((T.setVm vm').setCell a (vp_cell (E.2.1 i) (n1, .inl (fun j => Int32.ofInt (cpyI f g sp.toNat dp.toNat m.toNat j))))).heap = H.setIfInBounds a (vp_cell (E.2.1 i) (n1, .inl (fun j => Int32.ofInt (cpyI f g sp.toNat dp.toNat m.toNat j)))) := by rw [← hT]; rfl
  have oq : ∀ q : Nat, q ≠ a → (H.setIfInBounds a (vp_cell (E.2.1 i) (n1, .inl (fun j => Int32.ofInt (cpyI f g sp.toNat dp.toNat m.toNat j)))))[q]? = H[q]? := fun q hq => by simp [Array.getElem?_setIfInBounds, Ne.symm hq]
  have hgb := gb rfl
  obtain ⟨t, a1, b1⟩ := kk _ _ ls (h1.set (by rw [hmk]; exact (show (H.setIfInBounds a _)[a]? = some _ by simp [Array.getElem?_setIfInBounds, hlt])) hgb (by simp) oq) ⟨by simp; exact h2.1, fun q q1 q2 => by
      rw [oq q (fun e => q2 (by rw [e]; exact hgb))]
      exact h2.2.1 q q1 q2, fun q hq => by
      rcases List.mem_append.mp hq with h | h
      · exact h2.2.2 q h
      · obtain ⟨z, -, hz⟩ := List.mem_map.mp h
        rw [← hz]
        exact hgb⟩ h3 _ hheap X'
  exact ⟨t, step t a1, b1⟩
theorem g_acopyB {E X own cc nL ret pc L st w k n} (C : CX E X own cc nL ret) {a0 a n0 n1 : Nat} {b : Bool} {f g : Nat → Int} {sp dp m : Int} {index : Nat}
    (h : w.2 a0 = some (b, eB n0 f) ∧ w.2 a = some (true, eB n1 g) ∧ (0 ≤ sp ∧ 0 ≤ dp ∧ 0 ≤ m ∧ sp + m ≤ n0 ∧ dp + m ≤ n1 ∧ n0 < 2147483648 ∧ n1 < 2147483648) ∧ bF f)
    (ml : Cond.methodLink own index arraycopyName ∈ GT) (hf : 1 ≤ (xR X).frames) (hl : 64 ≤ (xR X).locals) (hcat : (st.map fun v => v.category).sum ≤ 8) (d : decode cc pc = .ok (.invokestatic index, 3))
    (kk : G E X nL (pc + 3) L st (wset w a (true, eB n1 (cpyI f g sp.toNat dp.toNat m.toNat))) k n) : G E X nL pc L (iI m :: iI dp :: .ref a :: iI sp :: .ref a0 :: st) w k n :=
  g_acopyX C 1 (mk := eB) (fun _ _ => rfl) rfl rfl h.1 h.2.1 h.2.2.1 (fun q => h.2.2.2.fit q) ml hf hl hcat d kk
theorem g_acopyI {E X own cc nL ret pc L st w k n} (C : CX E X own cc nL ret) {a0 a n0 n1 : Nat} {b : Bool} {f g : Nat → Int} {sp dp m : Int} {index : Nat}
    (h : w.2 a0 = some (b, eI n0 f) ∧ w.2 a = some (true, eI n1 g) ∧ (0 ≤ sp ∧ 0 ≤ dp ∧ 0 ≤ m ∧ sp + m ≤ n0 ∧ dp + m ≤ n1 ∧ n0 < 2147483648 ∧ n1 < 2147483648))
    (ml : Cond.methodLink own index arraycopyName ∈ GT) (hf : 1 ≤ (xR X).frames) (hl : 64 ≤ (xR X).locals) (hcat : (st.map fun v => v.category).sum ≤ 8) (d : decode cc pc = .ok (.invokestatic index, 3))
    (kk : G E X nL (pc + 3) L st (wset w a (true, eI n1 (cpyI f g sp.toNat dp.toNat m.toNat))) k n) : G E X nL pc L (iI m :: iI dp :: .ref a :: iI sp :: .ref a0 :: st) w k n :=
  g_acopyX C 0 (mk := eI) (fun _ _ => rfl) rfl rfl h.1 h.2.1 h.2.2 (fun q => rfl) ml hf hl hcat d kk
/-- from a constant's bytes -/
theorem g_acopyT {E X own cc nL ret pc L st w k n} (C : CX E X own cc nL ret) {a0 a n0 n1 : Nat} {f : Nat → Int32} {g : Nat → Int} {sp dp m : Int} {index : Nat}
    (h : va_T .byte a0 n0 (fun j => .int (f j)) (gA E) (xs X) (xs X).heap ∧ w.2 a = some (true, eB n1 g) ∧ (0 ≤ sp ∧ 0 ≤ dp ∧ 0 ≤ m ∧ sp + m ≤ n0 ∧ dp + m ≤ n1 ∧ n0 < 2147483648 ∧ n1 < 2147483648) ∧ bF (fun j => (f j).toInt))
    (ml : Cond.methodLink own index arraycopyName ∈ GT) (hf : 1 ≤ (xR X).frames) (hl : 64 ≤ (xR X).locals) (hcat : (st.map fun v => v.category).sum ≤ 8) (d : decode cc pc = .ok (.invokestatic index, 3))
    (kk : G E X nL (pc + 3) L st (wset w a (true, eB n1 (cpyI (fun j => (f j).toInt) g sp.toNat dp.toNat m.toNat))) k n) : G E X nL pc L (iI m :: iI dp :: .ref a :: iI sp :: .ref a0 :: st) w k n := by
  obtain ⟨hX, ha, hs, hbf⟩ := h
  intro H locs ls h1 h2 h3 T hT Y
  obtain ⟨scr, hs1, hs2, hs3, hs4, -, hs5, hs7⟩ := hX
  obtain ⟨g2, gb⟩ := h1.2 a true _ ha
  have hc0 : H[a0]? = some scr := by rw [h2.2.1 a0 (Array.getElem?_eq_some_iff.mp hs1).1 hs7]; exact hs1
  have hc1 : H[a]? = some (vp_cell (E.2.1 1) (n1, .inl (fun j => Int32.ofInt (g j)))) := g2
  obtain ⟨hs6, k0, hk0, cm0, hkk0⟩ := hs2
  obtain ⟨-, k1, hk1, cm1, hkk1⟩ := (kt_i C.kt 1 rfl).1 n1 (fun j => .int (Int32.ofInt (g j)))
  have es := i_nat (a := sp) hs.1 (by omega)
  have ed := i_nat (a := dp) hs.2.1 (by omega)
  have em := i_nat (a := m) hs.2.2.1 (by omega)
  have ef : (fun j => Int32.ofInt (f j).toInt) = f := by funext j; exact (i_of (f j)).symm
  obtain ⟨vm', X', step⟩ := Y.arraycopy C.ex C.ow (C.ts _ ml) (C.ts _ gw_native_arraycopyName) (C.ts _ gw_static_arraycopyName) (C.ts _ gw_initialized_java_lang_System) (src := a0) (dst := a) (cs := scr) (cd := vp_cell (E.2.1 1) (n1, .inl (fun j => Int32.ofInt (g j)))) (srcPos := Int32.ofInt sp) (destPos := Int32.ofInt dp) (n := Int32.ofInt m) (by rw [hT]; exact hc0) (by rw [hT]; exact hc1)
    hs6 (fun _ h => by cases h) hs3 (fun h => by cases h) hk0 hk1 hkk0 hkk1 (by simp [refKind]) (i_ng (by omega) (by omega)) (i_ng (by omega) (by omega)) (i_ng (by omega) (by omega))
    (by rw [i_tI (by omega) (by omega), i_tI (by omega) (by omega)]; omega)
    (by rw [i_tI (by omega) (by omega), i_tI (by omega) (by omega)]; show ¬ _ > ((arrV (E.2.1 1) n1 _).slots.size : Int); rw [arrV_size]; omega)
    (fun vm₁ _ q hq => by
      rw [em] at hq
      have e : scr.slots.getD ((Int32.ofInt sp).toNatClampNeg + q) .null = .int (f (sp.toNat + q)) := by
        rw [es, Array.getD_eq_getD_getElem?, hs5 _ (by omega)]
        rfl
      refine ⟨?_, ?_⟩
      · rw [e, i_of (f (sp.toNat + q))]
        exact hbf.fit (sp.toNat + q)
      · rw [e]
        exact trivial)
    (g := F0 (xm X) pc ls (iI m :: iI dp :: .ref a :: iI sp :: .ref a0 :: st)) rfl (by rw [h3.1, C.ml]) (rest := st) rfl (by rw [C.co]; exact d) hf (by show 2 * 0 + _ + (nativeFrameWords "java/lang/System" "arraycopy" 5 + 11) ≤ _; have : nativeFrameWords "java/lang/System" "arraycopy" 5 + 11 ≤ 56 := Nat.le_of_ble_eq_true rfl; omega)
  have e1 : copied scr (vp_cell (E.2.1 1) (n1, .inl (fun j => Int32.ofInt (g j)))) (Int32.ofInt sp) (Int32.ofInt dp) (Int32.ofInt m) = vp_cell (E.2.1 1) (n1, .inl (fun j => Int32.ofInt (cpyI (fun j => (f j).toInt) g sp.toNat dp.toNat m.toNat j))) := by
    rw [← cpyI_of, ← es, ← ed, ← em, ef]
    exact va_copiedX (fun z => .int z) scr (E.2.1 1) f (fun j => Int32.ofInt (g j)) hs5 (by rw [es, em]; omega)
  rw [e1] at X' step
  have hlt : a < H.size := (Array.getElem?_eq_some_iff.mp hc1).1
  have hheap : ((T.setVm vm').setCell a (vp_cell (E.2.1 1) (n1, .inl (fun j => Int32.ofInt (cpyI (fun j => (f j).toInt) g sp.toNat dp.toNat m.toNat j))))).heap = H.setIfInBounds a (vp_cell (E.2.1 1) (n1, .inl (fun j => Int32.ofInt (cpyI (fun j => (f j).toInt) g sp.toNat dp.toNat m.toNat j)))) := by rw [← hT]; rfl
  have oq : ∀ q : Nat, q ≠ a → (H.setIfInBounds a (vp_cell (E.2.1 1) (n1, .inl (fun j => Int32.ofInt (cpyI (fun j => (f j).toInt) g sp.toNat dp.toNat m.toNat j)))))[q]? = H[q]? := fun q hq => by simp [Array.getElem?_setIfInBounds, Ne.symm hq]
  have hgb := gb rfl
  obtain ⟨t, a1, b1⟩ := kk _ _ ls (h1.set (e := eB n1 (cpyI (fun j => (f j).toInt) g sp.toNat dp.toNat m.toNat)) (show (H.setIfInBounds a _)[a]? = some _ by simp [Array.getElem?_setIfInBounds, hlt]) hgb (by simp) oq) ⟨by simp; exact h2.1, fun q q1 q2 => by
      rw [oq q (fun e => q2 (by rw [e]; exact hgb))]
      exact h2.2.1 q q1 q2, fun q hq => by
      rcases List.mem_append.mp hq with h | h
      · exact h2.2.2 q h
      · obtain ⟨z, -, hz⟩ := List.mem_map.mp h
        rw [← hz]
        exact hgb⟩ h3 _ hheap X'
  exact ⟨t, step t a1, b1⟩
theorem g_castB {E X own cc nL ret pc L st w k n} (C : CX E X own cc nL ret) {a N : Nat} {b : Bool} {f : Nat → Int} {index : Nat} (h : w.2 a = some (b, eB N f)) (kl : Cond.classLink own index "[B" ∈ GT) (d : decode cc pc = .ok (.checkcast index, 3))
    (kk : G E X nL (pc + 3) L (.ref a :: st) w k n) : G E X nL pc L (.ref a :: st) w k n :=
  fun H locs ls h1 h2 h3 => va_castA (ws := [(a, .inl (E.2.1 1, N, .inl (fun j => Int32.ofInt (f j))))]) C.ex C.co C.ow (C.ts _ kl) (h1.P h) 0 rfl (kt_i C.kt 1 rfl).2 d (kk H locs ls h1 h2 h3)
theorem g_cloneB {E X own cc nL ret pc L st w k n} (C : CX E X own cc nL ret) {a N : Nat} {b : Bool} {f : Nat → Int} {index : Nat} (h : w.2 a = some (b, eB N f)) (hbf : bF f) (ml : Cond.methodLink own index ⟨"[B", "clone", "()Ljava/lang/Object;"⟩ ∈ GT)
    (hf : 1 ≤ (xR X).frames) (hl : 64 ≤ (xR X).locals) (hcat : (st.map fun v => v.category).sum ≤ 8) (hk : k + 1 ≤ (xR X).cells ∧ n + N ≤ (xR X).slots) (d : decode cc pc = .ok (.invokevirtual index, 3))
    (kk : G E X nL (pc + 3) L (.ref w.1 :: st) (wpush w (true, eB N f)) (k + 1) (n + N)) : G E X nL pc L (.ref a :: st) w k n := by
  intro H locs ls h1 h2 h3
  have hP := h1.P h
  have hcell : H[a]? = some (vp_cell (E.2.1 1) (N, .inl (fun j => Int32.ofInt (f j)))) := hP 0 _ rfl
  have hAr := (kt_i C.kt 1 rfl).1
  have hnm : (xs X).vm.findClass "[B" = some (E.2.1 1) := (kt_i C.kt 1 rfl).2
  obtain ⟨c0, t0', f1, f2, f3⟩ := Cond.castable_spec (va_Nw.use (A := xargs X) rfl C.kt.2.2.2.2.2.2.2.2)
  cases hnm.symm.trans f1
  intro T hT Y
  have hcellT : T.heap[a]? = some (vp_cell (E.2.1 1) (N, .inl (fun j => Int32.ofInt (f j)))) := by rw [hT]; exact hcell
  obtain ⟨-, kA, hkA, comp, hkind⟩ := State.isArrayOf_alike Y.warmed.alike (hAr 0 (fun _ => .null))
  obtain ⟨-, kS, hkS, compS, hkindS⟩ := hAr 0 (fun _ => .null)
  have hsz : (vp_cell (E.2.1 1) (N, .inl (fun j => Int32.ofInt (f j)))).slots.size = N := arrV_size _ _ _
  obtain ⟨vm', X', st'⟩ := Y.cloneArray C.ex C.ow (C.ts _ ml) (C.ts _ gw_sameMethod_B_java_lang_Object_clone_Ljava_lang_Object) (C.ts _ gw_native_java_lang_Object_clone_Ljava_lang_Object) (C.ts _ gw_instanceMethod_java_lang_Object_clone_Ljava_lang_Object) (C.ts _ gw_selects_B_B_clone_Ljava_lang_Object_java_lang_Object_clone_Ljava_lang_) (a := a) (cell := vp_cell (E.2.1 1) (N, .inl (fun j => Int32.ofInt (f j)))) hcellT (fun k h => by cases h) (fun h => by cases h) hnm f2 f3
    (fun i v hv => by
      have hk' : T.vm.classes[E.2.1 1]? = some kA := hkA
      have hv' : (arrV (E.2.1 1) N (fun j => Value.int (Int32.ofInt (f j)))).slots[i]? = some v := hv
      have hi : i < N := by
        have := (Array.getElem?_eq_some_iff.mp hv').1
        rw [arrV_size] at this; exact this
      rw [arrV_read _ _ hi] at hv'
      cases hv'
      have hbi := hbf.fit i
      simpa [State.fitsSlot, State.slotType?, vp_cell, arrV, hk', hkind] using hbi)
    (g := F0 (xm X) pc ls (.ref a :: st)) rfl (by rw [h3.1, C.ml]) rfl (by rw [C.co]; exact d) hf (by show 2 * 0 + _ + 14 ≤ _; omega) hk.1 (by rw [hsz]; exact hk.2) (hloader := Vm.clonesLoader_of_array hkS hkindS)
  rw [show ({ cls := (vp_cell (E.2.1 1) (N, .inl (fun j => Int32.ofInt (f j)))).cls, slots := (vp_cell (E.2.1 1) (N, .inl (fun j => Int32.ofInt (f j)))).slots } : Cell) = vp_cell (E.2.1 1) (N, .inl (fun j => Int32.ofInt (f j))) from rfl, hsz] at X'
  generalize hH1 : H.push (vp_cell (E.2.1 1) (N, .inl (fun j => Int32.ofInt (f j)))) = H1
  have z1 : H1.size = H.size + 1 := by rw [← hH1, Array.size_push]
  have e1 : H1[w.1]? = some (vp_cell (E.2.1 1) (N, .inl (fun j => Int32.ofInt (f j)))) := by rw [← hH1, ← h1.1, Array.getElem?_push_size]
  have o1 : ∀ q : Nat, q < H.size → H1[q]? = H[q]? := fun q hq => by rw [← hH1, Array.getElem?_push, if_neg (Nat.ne_of_lt hq)]
  have hb : E.2.2 ≤ w.1 := by rw [← h1.1]; exact Nat.le_trans C.bs h2.1
  obtain ⟨t, b1, b2⟩ := kk H1 locs ls (h1.push (e := eB N f) e1 hb z1 o1) (h2.p1 z1 o1) h3 ((T.setVm vm').pushCell (vp_cell (E.2.1 1) (N, .inl (fun j => Int32.ofInt (f j))))) (by rw [← hH1, ← hT]; rfl) X'
  refine ⟨t, st' t ?_, b2⟩
  rw [show ({ cls := (vp_cell (E.2.1 1) (N, .inl (fun j => Int32.ofInt (f j)))).cls, slots := (vp_cell (E.2.1 1) (N, .inl (fun j => Int32.ofInt (f j)))).slots } : Cell) = vp_cell (E.2.1 1) (N, .inl (fun j => Int32.ofInt (f j))) from rfl, hT, h1.1]
  exact b1
