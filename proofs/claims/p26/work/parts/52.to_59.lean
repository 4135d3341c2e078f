/-! texts' surroundings: constants, statics; contracts of methods that need them -/
abbrev KC : Type := (Nat → Nat) × (Nat → Nat) × Nat × Nat
def kTx : List (String × Nat × String) := [("RootwalkModel", 165, ""), ("RootwalkModel", 220, " "), ("RootwalkModel", 84, "0"), ("RootwalkModel", 93, "0123456789abcdef"), ("Rootwalk", 182, ""), ("Rootwalk", 343, "not 0 to 2"), ("Rootwalk", 350, "out of its range"), ("Rootwalk", 353, "a square is not a BASE")]
def kBy : Nat → List Int32
  | 0 => []
  | 1 => [32]
  | 2 => [48]
  | _ => [48, 49, 50, 51, 52, 53, 54, 55, 56, 57, 97, 98, 99, 100, 101, 102]
/-- private members of nest mates (out of the Statement's tables; made by hand for each landing) -/
def nWs : List (String × Nat × MethodName × String) := [("Rootwalk$Fraction", 30, ⟨"Rootwalk$Whole", "<init>", "()V"⟩, "Rootwalk"), ("Rootwalk", 36, ⟨"Rootwalk$Desk", "<init>", "()V"⟩, "Rootwalk"), ("Rootwalk$Desk", 11, ⟨"Rootwalk$Whole", "<init>", "()V"⟩, "Rootwalk"), ("Rootwalk$Pair", 17, ⟨"Rootwalk$Whole", "<init>", "()V"⟩, "Rootwalk"), ("Rootwalk$Split", 26, ⟨"Rootwalk", "restOfPower", "(III)I"⟩, "Rootwalk"), ("Rootwalk", 60, ⟨"Rootwalk$Walk", "<init>", "()V"⟩, "Rootwalk"), ("Rootwalk$Fraction", 35, ⟨"Rootwalk", "rootOf", "(I)I"⟩, "Rootwalk"), ("Rootwalk$Split", 55, ⟨"Rootwalk", "rest", "(JI)I"⟩, "Rootwalk"), ("RootwalkLaw", 173, ⟨"RootwalkLaw$Out", "<init>", "()V"⟩, "RootwalkLaw")]
def HT (K : KC) (E : GE) (U : State) (H : Heap) : Prop :=
  (∀ i t, kTx[i]? = some t → vk_R t.1 t.2.1 t.2.2 (K.1 i) U) ∧
  (∀ i, i < 4 → vk_S 1 [(kBy i).length] [kBy i] (fun _ => K.1 i) (fun _ => K.2.1 i) (gA E) U H) ∧
  va_Z "java/lang/String" "COMPACT_STRINGS" "Z" (.int 1) (gA E) U H ∧
  va_Zq "jdk/internal/util/Preconditions" "SIOOBE_FORMATTER" "Ljava/util/function/BiFunction;" (gA E) U H ∧
  (va_Z "java/lang/Integer" "DigitOnes" "[B" (.ref K.2.2.1) (gA E) U H ∧ ∃ d : Nat → Int32, va_T .byte K.2.2.1 100 (fun j => .int (d j)) (gA E) U H) ∧
  (va_Z "java/lang/Integer" "DigitTens" "[B" (.ref K.2.2.2) (gA E) U H ∧ ∃ d : Nat → Int32, va_T .byte K.2.2.2 100 (fun j => .int (d j)) (gA E) U H) ∧
  vx_Zq Bundle.tN "UNASSIGNED_STACK" Bundle.steD (gA E) U H ∧ vx_Zq Bundle.tN "SUPPRESSED_SENTINEL" Bundle.listD (gA E) U H ∧
  (∀ (i : Nat) (q : String × Nat × MethodName × String), nWs[i]? = some q → va_Nw (.methodLinkNest q.1 q.2.1 q.2.2.1 q.2.2.2) U)
theorem HT.warm {K : KC} {E : GE} {u U : State} {H : Heap} (hW : u.WarmedH U.vm) (h : HT K E u H) : HT K E U H := by
  obtain ⟨h1, h2, h3, h4, ⟨h5, d5, h5'⟩, ⟨h6, d6, h6'⟩, h7, h8, h9⟩ := h
  have hvm := hW.alike
  exact ⟨fun i t ht => vk_R.warm hW (h1 i t ht), fun i hi => vk_S.moved hvm (h2 i hi), va_Z.moved hvm h3, va_Zq.moved hvm h4, ⟨va_Z.moved hvm h5, d5, va_T.moved hvm h5'⟩, ⟨va_Z.moved hvm h6, d6, va_T.moved hvm h6'⟩, vx_Zq.moved hvm h7, vx_Zq.moved hvm h8, fun i q hi => va_Nw.warmM hW (h9 i q hi)⟩
theorem HT.kept {K : KC} {E : GE} {U : State} {H H1 : Heap} (h : HT K E U H) (hq : ∀ a : Nat, a < H.size → ¬ gA E a → H1[a]? = H[a]?) : HT K E U H1 := by
  obtain ⟨h1, h2, h3, h4, ⟨h5, d5, h5'⟩, ⟨h6, d6, h6'⟩, h7, h8, h9⟩ := h
  exact ⟨h1, fun i hi => (h2 i hi).kept hq, h3.kept hq, h4.kept hq, ⟨h5.kept hq, d5, h5'.kept hq⟩, ⟨h6.kept hq, d6, h6'.kept hq⟩, h7.kept hq, h8.kept hq, h9⟩
theorem HT.same {K : KC} {E : GE} {u U : State} {H : Heap} (hv : U.vm = u.vm) (h : HT K E u H) : HT K E U H := by
  obtain ⟨h1, h2, h3, h4, ⟨h5, d5, h5'⟩, ⟨h6, d6, h6'⟩, h7, h8, h9⟩ := h
  have hvm : u.vm.Alike U.vm := by rw [hv]; exact Vm.Alike.refl _
  exact ⟨fun i t ht => vk_R.same hv (h1 i t ht), fun i hi => vk_S.moved hvm (h2 i hi), va_Z.moved hvm h3, va_Zq.moved hvm h4, ⟨va_Z.moved hvm h5, d5, va_T.moved hvm h5'⟩, ⟨va_Z.moved hvm h6, d6, va_T.moved hvm h6'⟩, vx_Zq.moved hvm h7, vx_Zq.moved hvm h8, fun i q hi => va_Nw.same rfl hv.symm (h9 i q hi)⟩
def PcT (K : KC) (E : GE) (av : List Value) (w : Wd) : Array Value → State → Prop := va_Pc av (fun U => wOk E w U.heap ∧ KT E U ∧ E.2.2 ≤ U.heap.size ∧ HT K E U U.heap)
theorem pt_blind {K : KC} {E : GE} {w : Wd} {av : List Value} : FrameBlind (PcT K E av w) :=
  fun a U g mk q => by
    obtain ⟨q0, q1, q2, q3, q4⟩ := q
    exact ⟨q0, q1, KT.moved (u := U) (U := U.calling g mk a) (Vm.Alike.refl U.vm) q2, q3, HT.same (u := U) rfl q4⟩
def St (K : KC) (E : GE) (l : Launch) (y : MethodName) (cc : ByteArray) (maxL : Nat) (ret : Option FieldType) (dep mc ms : Nat) (av : List Value) (w : Wd) (Post : Option Value → Wd → Prop) : Prop :=
  Met l y (Cond.code y cc maxL ret :: GT) (rmD dep mc ms) (PcT K E av w) (Qs E Post) mc ms (gA E)
theorem st_intro {K : KC} {E : GE} {l : Launch} {y : MethodName} {cc : ByteArray} {maxL : Nat} {ret : Option FieldType} {dep mc ms : Nat} {av : List Value} {w : Wd} {Post : Option Value → Wd → Prop} (L : List (Option Value)) (hL : lA av maxL = L) (hle : (lg_sl av).length ≤ maxL) (hy : plainName y.cls = true)
    (body : ∀ X : XT, CX E X y.cls cc maxL ret → HT K E (xs X) (xs X).heap → ((xR X).frames = dep ∧ (xR X).locals = 64 * dep ∧ (xR X).cells = mc ∧ (xR X).slots = ms) → xl X = l → (xmeth X).name = y.name → RQ E X mc ms Post → G E X maxL 0 L [] w 0 0) : St K E l y cc maxL ret dep mc ms av w Post := by
  refine Met.ofW (cc := cc) (maxL := maxL) (ret := ret) hy rfl ?_
  intro p e s m args below meth c s₁ B hml hv
  obtain ⟨rfl, hw, hK, hb, hT⟩ := hv
  have hts := atoms_spec (ws := Cond.code y cc maxL ret :: GT) B.pre
  have b := body (p, l, e, rmD dep mc ms, s, m, av.toArray, below, meth, c, MQ below (Qs E Post) av.toArray s mc ms (gA E))
    ⟨B.exec, B.bytes, hml, B.returns, B.notSynchronized, findClass_of_methodNamed B.named, fun w h => hts w (List.mem_cons_of_mem _ h), hK, hb⟩ hT ⟨rfl, rfl, rfl, rfl⟩ rfl (name_of_methodNamed B.named B.method).1 rfl
  rw [lg_entry_eq]
  refine b s.heap [] _ hw va_S.rf ⟨(lv_entry av hle).1, (lv_entry av hle).2.1, fun i v h => ?_⟩
  subst hL
  unfold lA at h
  rw [List.getElem?_map] at h
  cases hx : (lg_sl av ++ List.replicate (maxL - (lg_sl av).length) Slot.unset)[i]? with
  | none => rw [hx] at h; cases h
  | some sl =>
    rw [hx] at h
    cases sl with
    | val u =>
      simp [slV] at h
      subst h
      rw [List.getElem?_toArray]
      exact hx
    | _ => simp [slV] at h
/-- a contract without surroundings serves within them -/
theorem Sp.st {K : KC} {E : GE} {l : Launch} {y : MethodName} {cc : ByteArray} {maxL : Nat} {ret : Option FieldType} {dep mc ms : Nat} {av : List Value} {w : Wd} {Post : Option Value → Wd → Prop} (h : Sp E l y cc maxL ret dep mc ms av w Post) : St K E l y cc maxL ret dep mc ms av w Post := by
  intro p e h1 h2 h3 s m args below h4 h5 h6
  exact h p e h1 h2 h3 s m args below h4 h5 ⟨h6.1, h6.2.1, h6.2.2.1, h6.2.2.2.1⟩
theorem t_pre {K : KC} {E : GE} {X : XT} {own cc nL ret} (C : CX E X own cc nL ret) (hT : HT K E (xs X) (xs X).heap) {H : Heap} {locs : List Loc} {w : Wd} (h1 : wOk E w H) (h2 : va_S (gA E) (xs X).heap H locs) {av : List Value} (U : State) (hU : U.heap = H) (hW : (xs X).WarmedH U.vm) : PcT K E av w av.toArray U :=
  ⟨rfl, by rw [hU]; exact h1, C.kt.moved hW.alike, by rw [hU]; exact Nat.le_trans C.bs h2.1, by rw [hU]; exact HT.warm hW (hT.kept h2.2.1)⟩
theorem t_callS {K : KC} {E X own cc nL ret pc L st st0 w k n} (C : CX E X own cc nL ret) (hT : HT K E (xs X) (xs X).heap) {y : MethodName} {bytes : ByteArray} {maxL : Nat} {rt : Option FieldType} {dep mc ms index nA : Nat} {av : List Value} {Post : Option Value → Wd → Prop} (hS : St K E (xl X) y bytes maxL rt dep mc ms av w Post)
    (ml : Cond.methodLink own index y ∈ GT) (sm : Cond.static y ∈ GT) (ini : Cond.initialized y.cls ∈ GT) (co : Cond.code y bytes maxL rt ∈ GT)
    (hd : y.cls ≠ "java/lang/invoke/MethodHandle" ∧ y.cls ≠ "java/lang/invoke/VarHandle" ∧ (parseMethodDescriptor y.desc).map (fun d => d.parameters.length) = some nA) (hA : av.length = nA)
    (hR : dep + 1 ≤ (xR X).frames ∧ 8 + (maxL + 11) + 64 * dep ≤ (xR X).locals) (hst : st0 = av.reverse ++ st) (hcat : (st.map fun v => v.category).sum ≤ 8) (hf : k + mc ≤ (xR X).cells ∧ n + ms ≤ (xR X).slots) (d : decode cc pc = .ok (.invokestatic index, 3))
    (kk : ∀ v w', Post v w' → G E X nL (pc + 3) L (v.toList ++ st) w' (k + mc) (n + ms)) : G E X nL pc L st0 w k n := by
  refine g_run (a := av.toArray) C (fun H locs ls h1 h2 h3 => ?_) kk
  exact va_runS (Ts := GT) ⟨C.ex, C.co, C.ml, C.ow, C.ts⟩ hS (va_cwS nA C.ts (gt_gi (fun w hw => by
      rcases List.mem_append.mp hw with h | h
      · simp only [List.mem_cons, List.not_mem_nil, or_false] at h
        rcases h with rfl | rfl | rfl
        · exact ml
        · exact sm
        · exact ini
      · rcases List.mem_cons.mp h with rfl | h
        · exact co
        · exact h)) rfl rfl rfl hd hR)
    ⟨pt_blind, fun U hU hW => t_pre C hT h1 h2 U hU hW⟩ rfl hA h3.1 hst (lv_room hcat) d hf
/-- an object at an address, of a class -/
def RcV (E : GE) (X : XT) (w : Wd) (cl : String) (a : Nat) : Prop := ∀ (H : Heap) (locs : List Loc), wOk E w H → va_S (gA E) (xs X).heap H locs → ∃ cell : Cell, H[a]? = some cell ∧ cell.vm.isStatics = false ∧ (xs X).vm.findClass cl = some cell.cls
theorem RcV.ob {E X own cc nL ret} (C : CX E X own cc nL ret) {w : Wd} {ci : Nat} {q : vw_C} {a : Nat} {b : Bool} {fs : List Value} (hc : clz[ci]? = some q) (ha : w.2 a = some (b, eO ci fs)) : RcV E X w q.1 a := fun H locs h1 h2 => w_recv C.kt h1 hc ha
theorem RcV.k {K : KC} {E : GE} {X : XT} {w : Wd} (hT : HT K E (xs X) (xs X).heap) {i : Nat} (hi : i < 4) : RcV E X w "java/lang/String" (K.1 i) := fun H locs h1 h2 => vk_recv (i := 0) (hT.2.1 i hi) (by decide) h2
theorem t_callV {K : KC} {E X own cc nL ret pc L st st0 w k n} (C : CX E X own cc nL ret) (hT : HT K E (xs X) (xs X).heap) {y : MethodName} {bytes : ByteArray} {maxL : Nat} {rt : Option FieldType} {dep mc ms index nA : Nat} {a : Nat} {av : List Value} {Post : Option Value → Wd → Prop} (hS : St K E (xl X) y bytes maxL rt dep mc ms (.ref a :: av) w Post)
    {cl : String} (ha : RcV E X w cl a) (hy : y.cls = cl)
    (ml : Cond.methodLink own index y ∈ GT) (im : Cond.instanceMethod y ∈ GT) (se : Cond.selects cl y y ∈ GT) (ini : Cond.initialized cl ∈ GT) (co : Cond.code y bytes maxL rt ∈ GT)
    (hd : y.cls ≠ "java/lang/invoke/MethodHandle" ∧ y.cls ≠ "java/lang/invoke/VarHandle" ∧ (parseMethodDescriptor y.desc).map (fun d => d.parameters.length) = some nA) (hA : av.length = nA)
    (hR : dep + 1 ≤ (xR X).frames ∧ 8 + (maxL + 11) + 64 * dep ≤ (xR X).locals) (hst : st0 = av.reverse ++ .ref a :: st) (hcat : (st.map fun v => v.category).sum ≤ 8) (hf : k + mc ≤ (xR X).cells ∧ n + ms ≤ (xR X).slots) (d : decode cc pc = .ok (.invokevirtual index, 3))
    (kk : ∀ v w', Post v w' → G E X nL (pc + 3) L (v.toList ++ st) w' (k + mc) (n + ms)) : G E X nL pc L st0 w k n := by
  refine g_run (a := (Value.ref a :: av).toArray) C (fun H locs ls h1 h2 h3 => ?_) kk
  exact va_runV (C := cl) (Ts := GT) ⟨C.ex, C.co, C.ml, C.ow, C.ts⟩ hS (cwV nA C.ts (gt_gi (fun w hw => by
      rcases List.mem_append.mp hw with h | h
      · simp only [List.mem_cons, List.not_mem_nil, or_false] at h
        rcases h with rfl | rfl | rfl | rfl
        · exact ml
        · exact im
        · exact se
        · exact ini
      · rcases List.mem_cons.mp h with rfl | h
        · exact co
        · exact h)) rfl rfl rfl ⟨hy, hd⟩ hR)
    ⟨pt_blind, ha H locs h1 h2, fun U hU hW => t_pre C hT h1 h2 U hU hW⟩ rfl hA h3.1 hst (lv_room hcat) d hf
theorem t_callI {K : KC} {E X own cc nL ret pc L st st0 w k n} (C : CX E X own cc nL ret) (hT : HT K E (xs X) (xs X).heap) {y : MethodName} {bytes : ByteArray} {maxL : Nat} {dep mc ms index nA : Nat} {a : Nat} {av : List Value} {Post : Option Value → Wd → Prop} (hS : St K E (xl X) y bytes maxL none dep mc ms (.ref a :: av) w Post)
    (ml : Cond.methodLink own index y ∈ GT) (im : Cond.instanceMethod y ∈ GT) (ini : Cond.initialized y.cls ∈ GT) (co : Cond.code y bytes maxL none ∈ GT) (hy : y.name = "<init>")
    (hd : y.cls ≠ "java/lang/invoke/MethodHandle" ∧ y.cls ≠ "java/lang/invoke/VarHandle" ∧ (parseMethodDescriptor y.desc).map (fun d => d.parameters.length) = some nA) (hA : av.length = nA)
    (hR : dep + 1 ≤ (xR X).frames ∧ 8 + (maxL + 11) + 64 * dep ≤ (xR X).locals) (hst : st0 = av.reverse ++ .ref a :: st) (hcat : (st.map fun v => v.category).sum ≤ 8) (hf : k + mc ≤ (xR X).cells ∧ n + ms ≤ (xR X).slots) (d : decode cc pc = .ok (.invokespecial index, 3))
    (kk : ∀ v w', Post v w' → G E X nL (pc + 3) L (v.toList ++ st) w' (k + mc) (n + ms)) : G E X nL pc L st0 w k n := by
  refine g_run (a := (Value.ref a :: av).toArray) C (fun H locs ls h1 h2 h3 => ?_) kk
  exact va_runI (Ts := GT) ⟨C.ex, C.co, C.ml, C.ow, C.ts⟩ hS (cwI nA C.ts (gt_gi (fun w hw => by
      rcases List.mem_cons.mp hw with rfl | h
      · exact co
      · exact h)) rfl rfl rfl (C.ts _ ini) (C.ts _ ml) (C.ts _ im) hy hd hR)
    ⟨pt_blind, fun U hU hW => t_pre C hT h1 h2 U hU hW⟩ rfl hA h3.1 hst (lv_room hcat) d hf
/-- a superclass's own method, by a plain call -/
theorem t_callU {K : KC} {E X own cc nL ret pc L st st0 w k n} (C : CX E X own cc nL ret) (hT : HT K E (xs X) (xs X).heap) {x y : MethodName} {owner : String} {bytes : ByteArray} {maxL : Nat} {rt : Option FieldType} {dep mc ms index nA : Nat} {a : Nat} {av : List Value} {Post : Option Value → Wd → Prop} (hS : St K E (xl X) y bytes maxL rt dep mc ms (.ref a :: av) w Post)
    {cl : String} (ha : RcV E X w cl a) (hyx : y = ⟨owner, x.name, x.desc⟩)
    (ml : Cond.methodLink own index x ∈ GT) (sa : Cond.sameMethod x.cls owner x.name x.desc ∈ GT) (se : Cond.selects cl x y ∈ GT) (im : Cond.instanceMethod y ∈ GT) (ini : Cond.initialized y.cls ∈ GT) (co : Cond.code y bytes maxL rt ∈ GT)
    (hd : owner ≠ "java/lang/invoke/MethodHandle" ∧ owner ≠ "java/lang/invoke/VarHandle" ∧ (parseMethodDescriptor x.desc).map (fun d => d.parameters.length) = some nA) (hA : av.length = nA)
    (hR : dep + 1 ≤ (xR X).frames ∧ 8 + (maxL + 11) + 64 * dep ≤ (xR X).locals) (hst : st0 = av.reverse ++ .ref a :: st) (hcat : (st.map fun v => v.category).sum ≤ 8) (hf : k + mc ≤ (xR X).cells ∧ n + ms ≤ (xR X).slots) (d : decode cc pc = .ok (.invokevirtual index, 3))
    (kk : ∀ v w', Post v w' → G E X nL (pc + 3) L (v.toList ++ st) w' (k + mc) (n + ms)) : G E X nL pc L st0 w k n := by
  refine g_run (a := (Value.ref a :: av).toArray) C (fun H locs ls h1 h2 h3 => ?_) kk
  exact va_runU (C := cl) (Ts := GT) ⟨C.ex, C.co, C.ml, C.ow, C.ts⟩ hS (va_cwU nA C.ts (gt_gi (fun w hw => by
      unfold va_wsU at hw
      rcases List.mem_append.mp hw with h | h
      · simp only [List.mem_cons, List.not_mem_nil, or_false] at h
        rcases h with rfl | rfl | rfl | rfl | rfl
        · exact ml
        · exact sa
        · exact se
        · exact im
        · exact ini
      · rcases List.mem_cons.mp h with rfl | h
        · exact co
        · exact h)) rfl rfl rfl hyx hd hR)
    ⟨pt_blind, ha H locs h1 h2, fun U hU hW => t_pre C hT h1 h2 U hU hW⟩ rfl hA h3.1 hst (lv_room hcat) d hf
theorem t_callO {K : KC} {E X own cc nL ret pc L st st0 w k n} (C : CX E X own cc nL ret) (hT : HT K E (xs X) (xs X).heap) {x y : MethodName} {owner : String} {bytes : ByteArray} {maxL : Nat} {rt : Option FieldType} {dep mc ms index nA : Nat} {a : Nat} {av : List Value} {Post : Option Value → Wd → Prop} (hS : St K E (xl X) y bytes maxL rt dep mc ms (.ref a :: av) w Post)
    {cl : String} (ha : RcV E X w cl a)
    (ml : Cond.methodLink own index x ∈ GT) (sa : Cond.sameMethod x.cls owner x.name x.desc ∈ GT) (imx : Cond.instanceMethod ⟨owner, x.name, x.desc⟩ ∈ GT) (se : Cond.selects cl x y ∈ GT) (im : Cond.instanceMethod y ∈ GT) (ini : Cond.initialized y.cls ∈ GT) (co : Cond.code y bytes maxL rt ∈ GT) {bytesx : ByteArray} {maxLx : Nat} {rtx : Option FieldType} (cox : Cond.code ⟨owner, x.name, x.desc⟩ bytesx maxLx rtx ∈ GT)
    (hd : owner ≠ "java/lang/invoke/MethodHandle" ∧ owner ≠ "java/lang/invoke/VarHandle" ∧ (parseMethodDescriptor x.desc).map (fun d => d.parameters.length) = some nA) (hA : av.length = nA)
    (hR : dep + 1 ≤ (xR X).frames ∧ 8 + (maxL + 11) + 64 * dep ≤ (xR X).locals) (hst : st0 = av.reverse ++ .ref a :: st) (hcat : (st.map fun v => v.category).sum ≤ 8) (hf : k + mc ≤ (xR X).cells ∧ n + ms ≤ (xR X).slots) (d : decode cc pc = .ok (.invokevirtual index, 3))
    (kk : ∀ v w', Post v w' → G E X nL (pc + 3) L (v.toList ++ st) w' (k + mc) (n + ms)) : G E X nL pc L st0 w k n := by
  refine g_run (a := (Value.ref a :: av).toArray) C (fun H locs ls h1 h2 h3 => ?_) kk
  exact va_runU (C := cl) (Ts := GT) ⟨C.ex, C.co, C.ml, C.ow, C.ts⟩ hS (va_cwO nA C.ts (gt_gi (fun w hw => by
      unfold va_wsO at hw
      rcases List.mem_append.mp hw with h | h
      · simp only [List.mem_cons, List.not_mem_nil, or_false] at h
        rcases h with rfl | rfl | rfl | rfl | rfl | rfl
        · exact ml
        · exact sa
        · exact imx
        · exact se
        · exact im
        · exact ini
      · rcases List.mem_cons.mp h with rfl | h
        · exact co
        · exact h)) rfl rfl rfl cox hd hR)
    ⟨pt_blind, ha H locs h1 h2, fun U hU hW => t_pre C hT h1 h2 U hU hW⟩ rfl hA h3.1 hst (lv_room hcat) d hf
/-- super.m(..) -/
theorem t_callP {K : KC} {E X own cc nL ret pc L st st0 w k n} (C : CX E X own cc nL ret) (hT : HT K E (xs X) (xs X).heap) {y : MethodName} {bytes : ByteArray} {maxL : Nat} {rt : Option FieldType} {dep mc ms index nA : Nat} {a : Nat} {av : List Value} {Post : Option Value → Wd → Prop} (hS : St K E (xl X) y bytes maxL rt dep mc ms (.ref a :: av) w Post)
    {ci : Nat} {q : vw_C} {b : Bool} {fs : List Value} (hc : clz[ci]? = some q) (ha : w.2 a = some (b, eO ci fs))
    (ml : Cond.methodLink own index y ∈ GT) (sa : Cond.sameMethod y.cls y.cls y.name y.desc ∈ GT) (su : Cond.superclass own y.cls ∈ GT) (im : Cond.instanceMethod y ∈ GT) (ini : Cond.initialized y.cls ∈ GT) (co : Cond.code y bytes maxL rt ∈ GT)
    (hd : y.name ≠ "<init>" ∧ (parseMethodDescriptor y.desc).map (fun d => d.parameters.length) = some nA) (hA : av.length = nA)
    (hR : dep + 1 ≤ (xR X).frames ∧ 8 + (maxL + 11) + 64 * dep ≤ (xR X).locals) (hst : st0 = av.reverse ++ .ref a :: st) (hcat : (st.map fun v => v.category).sum ≤ 8) (hf : k + mc ≤ (xR X).cells ∧ n + ms ≤ (xR X).slots) (d : decode cc pc = .ok (.invokespecial index, 3))
    (kk : ∀ v w', Post v w' → G E X nL (pc + 3) L (v.toList ++ st) w' (k + mc) (n + ms)) : G E X nL pc L st0 w k n := by
  refine g_run (a := (Value.ref a :: av).toArray) C (fun H locs ls h1 h2 h3 => ?_) kk
  obtain ⟨hS9, hfc, kC, hkC, hkind⟩ := C.kt.1.1 ci _ hc
  have hrc := w_recv C.kt h1 hc ha
  obtain ⟨cell, e1, e2, e3⟩ := hrc
  refine va_runSU (C := q.1) (cC := cell.cls) ⟨e3, ?_⟩ (Ts := GT) ⟨C.ex, C.co, C.ml, C.ow, C.ts⟩ hS (va_cwSU nA C.ts (gt_gi (fun w hw => by
      unfold va_wsSU at hw
      rcases List.mem_append.mp hw with h | h
      · simp only [List.mem_cons, List.not_mem_nil, or_false] at h
        rcases h with rfl | rfl | rfl | rfl | rfl
        · exact ml
        · exact sa
        · exact su
        · exact im
        · exact ini
      · rcases List.mem_cons.mp h with rfl | h
        · exact co
        · exact h)) rfl rfl rfl hd hR)
    ⟨pt_blind, ⟨cell, e1, e2, e3⟩, fun U hU hW => t_pre C hT h1 h2 U hU hW⟩ rfl hA h3.1 hst (lv_room hcat) d hf
  have hcc : E.1.1 ci = cell.cls := Option.some.inj (hfc.symm.trans e3)
  exact ⟨kC, by rw [← hcc]; exact hkC, hkind⟩
/-! rows on constants and statics -/
theorem g_ldcS {K : KC} {E X own cc nL ret pc L st w k n} (C : CX E X own cc nL ret) (hT : HT K E (xs X) (xs X).heap) (i : Nat) {index : Nat} {tx : String} (hi : kTx[i]? = some (own, index, tx)) (d : decode cc pc = .ok (.ldc index, 2)) (kk : G E X nL (pc + 2) L (.ref (K.1 i) :: st) w k n) : G E X nL pc L st w k n :=
  fun H locs ls h1 h2 h3 => va_ldcS C.ex C.co C.ow (hT.1 i (own, index, tx) hi) d (kk H locs ls h1 h2 h3)
theorem g_gets {E X own cc nL ret pc L st w k n} (C : CX E X own cc nL ret) {Cn nm ds : String} {v : Value} {index : Nat} (hZ : va_Z Cn nm ds v (gA E) (xs X) (xs X).heap) (fl : Cond.fieldLink own index Cn nm ds ∈ GT) (d : decode cc pc = .ok (.getstatic index, 3)) (kk : G E X nL (pc + 3) L (v :: st) w k n) : G E X nL pc L st w k n :=
  fun H locs ls h1 h2 h3 => va_gets C.ex C.co hZ h2 C.ow (C.ts _ fl) (fun _ h => h) d (kk H locs ls h1 h2 h3)
theorem g_kval {K : KC} {E X own cc nL ret pc L st w k n} (C : CX E X own cc nL ret) (hT : HT K E (xs X) (xs X).heap) {i : Nat} (hi : i < 4) {index : Nat} (fl : Cond.fieldLink own index "java/lang/String" "value" "[B" ∈ GT) (d : decode cc pc = .ok (.getfield index, 3)) (kk : G E X nL (pc + 3) L (.ref (K.2.1 i) :: st) w k n) : G E X nL pc L (.ref (K.1 i) :: st) w k n :=
  fun H locs ls h1 h2 h3 => vk_getf C.ex C.co ((hT.2.1 i hi).1 0 (by decide)).2.2.1 h2 C.ow (C.ts _ fl) (fun _ h => h) d (kk H locs ls h1 h2 h3)
theorem g_kcod {K : KC} {E X own cc nL ret pc L st w k n} (C : CX E X own cc nL ret) (hT : HT K E (xs X) (xs X).heap) {i : Nat} (hi : i < 4) {index : Nat} (fl : Cond.fieldLink own index "java/lang/String" "coder" "B" ∈ GT) (d : decode cc pc = .ok (.getfield index, 3)) (kk : G E X nL (pc + 3) L (iI 0 :: st) w k n) : G E X nL pc L (.ref (K.1 i) :: st) w k n :=
  fun H locs ls h1 h2 h3 => vk_getf C.ex C.co ((hT.2.1 i hi).1 0 (by decide)).2.1 h2 C.ow (C.ts _ fl) (fun _ h => h) d (kk H locs ls h1 h2 h3)
theorem g_tlen {E X own cc nL ret pc L st w k n} (C : CX E X own cc nL ret) {t N : Nat} {f : Nat → Value} (hX : va_T .byte t N f (gA E) (xs X) (xs X).heap) (d : decode cc pc = .ok (.arraylength, 1)) (kk : G E X nL (pc + 1) L (iI N :: st) w k n) : G E X nL pc L (.ref t :: st) w k n :=
  fun H locs ls h1 h2 h3 => va_tlen C.ex C.co hX h2 (show Int32.ofNat N = Int32.ofInt N from Int32.ofInt_eq_ofNat.symm) d (kk H locs ls h1 h2 h3)
theorem g_tbal {E X own cc nL ret pc L st w k n} (C : CX E X own cc nL ret) {t N : Nat} {f : Nat → Int32} {z : Int} (hX : va_T .byte t N (fun j => .int (f j)) (gA E) (xs X) (xs X).heap) (hz : 0 ≤ z ∧ z < N ∧ z < 2147483648) (d : decode cc pc = .ok (.baload, 1)) (kk : G E X nL (pc + 1) L (iI (f z.toNat).toInt :: st) w k n) : G E X nL pc L (iI z :: .ref t :: st) w k n :=
  fun H locs ls h1 h2 h3 => va_tb C.ex C.co hX h2 (i_in hz.1 hz.2.1 hz.2.2) (v := iI (f z.toNat).toInt) (by rw [i_nat hz.1 hz.2.2]; exact congrArg Value.int (i_of _)) d (kk H locs ls h1 h2 h3)
/-! bytes -/
def bF (f : Nat → Int) : Prop := ∀ i, -128 ≤ f i ∧ f i ≤ 127
theorem bF.fit {f : Nat → Int} (h : bF f) (i : Nat) : fits .byte (.int (Int32.ofInt (f i))) = true := by
  obtain ⟨h1, h2⟩ := h i
  have e : Int32.ofInt (f i) = (Int32.ofInt (f i)).toInt8.toInt32 := by
    rw [← Int32.toInt_inj, Int8.toInt_toInt32, Int32.toInt_toInt8, Int32.toInt_ofInt_of_le (by omega) (by omega)]
    rw [Int.bmod_eq_of_le (by omega) (by omega)]
  rw [e]
  exact pk_fb _
theorem bF.iup {f : Nat → Int} (h : bF f) (k : Nat) {x : Int} (hx : -128 ≤ x ∧ x ≤ 127) : bF (iup f k x) := by
  intro i
  by_cases q : i = k
  · rw [q, iup_s]; exact hx
  · rw [iup_n q]; exact h i
theorem bF.zero : bF (fun _ => 0) := fun _ => by show (-128 : Int) ≤ 0 ∧ (0 : Int) ≤ 127; omega
theorem b_nar (x : Int32) : ∃ y : Int, vp_nar .byte x = Int32.ofInt y ∧ -128 ≤ y ∧ y ≤ 127 := by
  refine ⟨x.toInt8.toInt, ?_, ?_, ?_⟩
  · show x.toInt8.toInt32 = _
    rw [← Int32.toInt_inj, Int8.toInt_toInt32, Int32.toInt_ofInt_of_le (by have := Int8.le_toInt x.toInt8; omega) (by have := Int8.toInt_lt x.toInt8; omega)]
  · exact Int8.le_toInt x.toInt8
  · have := Int8.toInt_lt x.toInt8; omega
theorem g_objInit {E X own cc nL ret pc L st w k n} (C : CX E X own cc nL ret) {a index : Nat} (ml : Cond.methodLink own index objectInit ∈ GT) (hf : 1 ≤ (xR X).frames) (hl : 64 ≤ (xR X).locals) (hcat : (st.map fun v => v.category).sum ≤ 8) (d : decode cc pc = .ok (.invokespecial index, 3)) (kk : G E X nL (pc + 3) L st w k n) : G E X nL pc L (.ref a :: st) w k n :=
  fun H locs ls h1 h2 h3 => W.objInit C.ex C.co C.ow (C.ts _ ml) (C.ts _ gw_instanceMethod_objectInit) (C.ts _ gw_code_objectInit_0xb1_1_none) (g := F0 (xm X) pc ls (.ref a :: st)) rfl (by rw [h3.1, C.ml]) rfl d hf (by show 2 * 0 + _ + 12 ≤ _; omega) (kk H locs ls h1 h2 h3)
def cpyI (f g : Nat → Int) (sp dp n : Nat) : Nat → Int := fun k => if dp ≤ k ∧ k < dp + n then f (sp + (k - dp)) else g k
theorem cpyI_of (f g : Nat → Int) (sp dp n : Nat) : va_cpy (fun j => Int32.ofInt (f j)) (fun j => Int32.ofInt (g j)) sp dp n = fun j => Int32.ofInt (cpyI f g sp dp n j) := by
  funext j
  unfold va_cpy cpyI
  split <;> rfl
theorem bF.cpy {f g : Nat → Int} (hf : bF f) (hg : bF g) (sp dp n : Nat) : bF (cpyI f g sp dp n) := by
  intro i
  unfold cpyI
  split
  · exact hf _
  · exact hg _
theorem i_ng {z : Int} (h0 : 0 ≤ z) (h1 : z < 2147483648) : ¬ Int32.ofInt z < 0 := by rw [i_0, i_lt (by omega) (by omega)]; omega
theorem i_tI {z : Int} (h0 : -2147483648 ≤ z) (h1 : z < 2147483648) : (Int32.ofInt z).toInt = z := Int32.toInt_ofInt_of_le (by omega) (by omega)
/-- System.arraycopy of bytes or of ints, both rows in the world -/
theorem g_acopyX {E X own cc nL ret pc L st w k n} (C : CX E X own cc nL ret) {a0 a n0 n1 : Nat} {b : Bool} {f g : Nat → Int} {sp dp m : Int} {index : Nat} (i : Nat) {ty : FieldType} {mk : Nat → (Nat → Int) → Ent} (hmk : ∀ N h, conc E (mk N h) = .inl (E.2.1 i, N, .inl (fun j => Int32.ofInt (h j)))) (hti : (tysOf E.2.1)[i]? = some (E.2.1 i, ty)) (hty : refKind ty = false)
    (h0 : w.2 a0 = some (b, mk n0 f)) (ha : w.2 a = some (true, mk n1 g)) (hs : 0 ≤ sp ∧ 0 ≤ dp ∧ 0 ≤ m ∧ sp + m ≤ n0 ∧ dp + m ≤ n1 ∧ n0 < 2147483648 ∧ n1 < 2147483648) (hfit : ∀ q, fits ty (.int (Int32.ofInt (f q))) = true)
    (ml : Cond.methodLink own index arraycopyName ∈ GT) (hf : 1 ≤ (xR X).frames) (hl : 64 ≤ (xR X).locals) (hcat : (st.map fun v => v.category).sum ≤ 8) (d : decode cc pc = .ok (.invokestatic index, 3))
    (kk : G E X nL (pc + 3) L st (wset w a (true, mk n1 (cpyI f g sp.toNat dp.toNat m.toNat))) k n) : G E X nL pc L (iI m :: iI dp :: .ref a :: iI sp :: .ref a0 :: st) w k n := by
  intro H locs ls h1 h2 h3 T hT Y
  obtain ⟨g1, -⟩ := h1.2 a0 b _ h0
  obtain ⟨g2, gb⟩ := h1.2 a true _ ha
  rw [hmk] at g1 g2
  have hc0 : H[a0]? = some (vp_cell (E.2.1 i) (n0, .inl (fun j => Int32.ofInt (f j)))) := g1
  have hc1 : H[a]? = some (vp_cell (E.2.1 i) (n1, .inl (fun j => Int32.ofInt (g j)))) := g2
  obtain ⟨-, k0, hk0, cm0, hkk0⟩ := (kt_i C.kt i hti).1 n0 (fun j => .int (Int32.ofInt (f j)))
  have es := i_nat (a := sp) hs.1 (by omega)
  have ed := i_nat (a := dp) hs.2.1 (by omega)
  have em := i_nat (a := m) hs.2.2.1 (by omega)
  obtain ⟨vm', X', step⟩ := Y.arraycopy C.ex C.ow (C.ts _ ml) (C.ts _ gw_native_arraycopyName) (C.ts _ gw_static_arraycopyName) (C.ts _ gw_initialized_java_lang_System) (src := a0) (dst := a) (cs := vp_cell (E.2.1 i) (n0, .inl (fun j => Int32.ofInt (f j)))) (cd := vp_cell (E.2.1 i) (n1, .inl (fun j => Int32.ofInt (g j)))) (srcPos := Int32.ofInt sp) (destPos := Int32.ofInt dp) (n := Int32.ofInt m) (by rw [hT]; exact hc0) (by rw [hT]; exact hc1)
    (fun _ h => by cases h) (fun _ h => by cases h) (fun h => by cases h) (fun h => by cases h) hk0 hk0 hkk0 hkk0 (by simp [hty]) (i_ng (by omega) (by omega)) (i_ng (by omega) (by omega)) (i_ng (by omega) (by omega))
    (by rw [i_tI (by omega) (by omega), i_tI (by omega) (by omega)]; show ¬ _ > ((arrV (E.2.1 i) n0 _).slots.size : Int); rw [arrV_size]; omega)
    (by rw [i_tI (by omega) (by omega), i_tI (by omega) (by omega)]; show ¬ _ > ((arrV (E.2.1 i) n1 _).slots.size : Int); rw [arrV_size]; omega)
    (fun vm₁ _ q hq => by
      rw [em] at hq
      have e : (vp_cell (E.2.1 i) (n0, .inl (fun j => Int32.ofInt (f j)))).slots.getD ((Int32.ofInt sp).toNatClampNeg + q) .null = .int (Int32.ofInt (f (sp.toNat + q))) := by
        rw [es]
        show (arrV (E.2.1 i) n0 (fun j => .int (Int32.ofInt (f j)))).slots.getD _ _ = _
        rw [Array.getD_eq_getD_getElem?, arrV_read _ _ (by omega)]
        rfl
      refine ⟨?_, ?_⟩
      · rw [e]
        exact hfit _
      · rw [e]
        exact trivial)
    (g := F0 (xm X) pc ls (iI m :: iI dp :: .ref a :: iI sp :: .ref a0 :: st)) rfl (by rw [h3.1, C.ml]) (rest := st) rfl (by rw [C.co]; exact d) hf (by show 2 * 0 + _ + (nativeFrameWords "java/lang/System" "arraycopy" 5 + 11) ≤ _; have : nativeFrameWords "java/lang/System" "arraycopy" 5 + 11 ≤ 56 := Nat.le_of_ble_eq_true rfl; omega)
  have e1 : copied (vp_cell (E.2.1 i) (n0, .inl (fun j => Int32.ofInt (f j)))) (vp_cell (E.2.1 i) (n1, .inl (fun j => Int32.ofInt (g j)))) (Int32.ofInt sp) (Int32.ofInt dp) (Int32.ofInt m) = vp_cell (E.2.1 i) (n1, .inl (fun j => Int32.ofInt (cpyI f g sp.toNat dp.toNat m.toNat j))) := by
    rw [← cpyI_of, ← es, ← ed, ← em]
    exact va_copied (fun z => .int z) (E.2.1 i) (E.2.1 i) (fun j => Int32.ofInt (f j)) (fun j => Int32.ofInt (g j)) (by rw [es, em]; omega)
  rw [e1] at X' step
  have hlt : a < H.size := (Array.getElem?_eq_some_iff.mp hc1).1
  have hheap : ((T.setVm vm').setCell a (vp_cell (E.2.1 i) (n1, .inl (fun j => Int32.ofInt (cpyI f g sp.toNat dp.toNat m.toNat j))))).heap = H.setIfInBounds a (vp_cell (E.2.1 i) (n1, .inl (fun j => Int32.ofInt (cpyI f g sp.toNat dp.toNat m.toNat j)))) := by rw [← hT]; rfl
  have oq : ∀ q : Nat, q ≠ a → (H.setIfInBounds a (vp_cell (E.2.1 i) (n1, .inl (fun j => Int32.ofInt (cpyI f g sp.toNat dp.toNat m.toNat j)))))[q]? = H[q]? := fun q hq => by simp [Array.getElem?_setIfInBounds, Ne.symm hq]
  have hgb := gb rfl
  obtain ⟨t, a1, b1⟩ := kk _ _ ls (h1.set (by rw [hmk]; exact (show (H.setIfInBounds a _)[a]? = some _ by simp [Array.getElem?_setIfInBounds, hlt])) hgb (by simp) oq) ⟨by simp; exact h2.1, fun q q1 q2 => by
      rw [oq q (fun e => q2 (by rw [e]; exact hgb))]
      exact h2.2.1 q q1 q2, fun q hq => by
      rcases List.mem_append.mp hq with h | h
      · exact h2.2.2 q h
      · obtain ⟨z, -, hz⟩ := List.mem_map.mp h
        rw [← hz]
        exact hgb⟩ h3 _ hheap X'
  exact ⟨t, step t a1, b1⟩
theorem g_acopyB {E X own cc nL ret pc L st w k n} (C : CX E X own cc nL ret) {a0 a n0 n1 : Nat} {b : Bool} {f g : Nat → Int} {sp dp m : Int} {index : Nat}
    (h : w.2 a0 = some (b, eB n0 f) ∧ w.2 a = some (true, eB n1 g) ∧ (0 ≤ sp ∧ 0 ≤ dp ∧ 0 ≤ m ∧ sp + m ≤ n0 ∧ dp + m ≤ n1 ∧ n0 < 2147483648 ∧ n1 < 2147483648) ∧ bF f)
    (ml : Cond.methodLink own index arraycopyName ∈ GT) (hf : 1 ≤ (xR X).frames) (hl : 64 ≤ (xR X).locals) (hcat : (st.map fun v => v.category).sum ≤ 8) (d : decode cc pc = .ok (.invokestatic index, 3))
    (kk : G E X nL (pc + 3) L st (wset w a (true, eB n1 (cpyI f g sp.toNat dp.toNat m.toNat))) k n) : G E X nL pc L (iI m :: iI dp :: .ref a :: iI sp :: .ref a0 :: st) w k n :=
  g_acopyX C 1 (mk := eB) (fun _ _ => rfl) rfl rfl h.1 h.2.1 h.2.2.1 (fun q => h.2.2.2.fit q) ml hf hl hcat d kk
theorem g_acopyI {E X own cc nL ret pc L st w k n} (C : CX E X own cc nL ret) {a0 a n0 n1 : Nat} {b : Bool} {f g : Nat → Int} {sp dp m : Int} {index : Nat}
    (h : w.2 a0 = some (b, eI n0 f) ∧ w.2 a = some (true, eI n1 g) ∧ (0 ≤ sp ∧ 0 ≤ dp ∧ 0 ≤ m ∧ sp + m ≤ n0 ∧ dp + m ≤ n1 ∧ n0 < 2147483648 ∧ n1 < 2147483648))
    (ml : Cond.methodLink own index arraycopyName ∈ GT) (hf : 1 ≤ (xR X).frames) (hl : 64 ≤ (xR X).locals) (hcat : (st.map fun v => v.category).sum ≤ 8) (d : decode cc pc = .ok (.invokestatic index, 3))
    (kk : G E X nL (pc + 3) L st (wset w a (true, eI n1 (cpyI f g sp.toNat dp.toNat m.toNat))) k n) : G E X nL pc L (iI m :: iI dp :: .ref a :: iI sp :: .ref a0 :: st) w k n :=
  g_acopyX C 0 (mk := eI) (fun _ _ => rfl) rfl rfl h.1 h.2.1 h.2.2 (fun q => rfl) ml hf hl hcat d kk
/-- from a constant's bytes -/
theorem g_acopyT {E X own cc nL ret pc L st w k n} (C : CX E X own cc nL ret) {a0 a n0 n1 : Nat} {f : Nat → Int32} {g : Nat → Int} {sp dp m : Int} {index : Nat}
    (h : va_T .byte a0 n0 (fun j => .int (f j)) (gA E) (xs X) (xs X).heap ∧ w.2 a = some (true, eB n1 g) ∧ (0 ≤ sp ∧ 0 ≤ dp ∧ 0 ≤ m ∧ sp + m ≤ n0 ∧ dp + m ≤ n1 ∧ n0 < 2147483648 ∧ n1 < 2147483648) ∧ bF (fun j => (f j).toInt))
    (ml : Cond.methodLink own index arraycopyName ∈ GT) (hf : 1 ≤ (xR X).frames) (hl : 64 ≤ (xR X).locals) (hcat : (st.map fun v => v.category).sum ≤ 8) (d : decode cc pc = .ok (.invokestatic index, 3))
    (kk : G E X nL (pc + 3) L st (wset w a (true, eB n1 (cpyI (fun j => (f j).toInt) g sp.toNat dp.toNat m.toNat))) k n) : G E X nL pc L (iI m :: iI dp :: .ref a :: iI sp :: .ref a0 :: st) w k n := by
  obtain ⟨hX, ha, hs, hbf⟩ := h
  intro H locs ls h1 h2 h3 T hT Y
  obtain ⟨scr, hs1, hs2, hs3, hs4, -, hs5, hs7⟩ := hX
  obtain ⟨g2, gb⟩ := h1.2 a true _ ha
  have hc0 : H[a0]? = some scr := by rw [h2.2.1 a0 (Array.getElem?_eq_some_iff.mp hs1).1 hs7]; exact hs1
  have hc1 : H[a]? = some (vp_cell (E.2.1 1) (n1, .inl (fun j => Int32.ofInt (g j)))) := g2
  obtain ⟨hs6, k0, hk0, cm0, hkk0⟩ := hs2
  obtain ⟨-, k1, hk1, cm1, hkk1⟩ := (kt_i C.kt 1 rfl).1 n1 (fun j => .int (Int32.ofInt (g j)))
  have es := i_nat (a := sp) hs.1 (by omega)
  have ed := i_nat (a := dp) hs.2.1 (by omega)
  have em := i_nat (a := m) hs.2.2.1 (by omega)
  have ef : (fun j => Int32.ofInt (f j).toInt) = f := by funext j; exact (i_of (f j)).symm
  obtain ⟨vm', X', step⟩ := Y.arraycopy C.ex C.ow (C.ts _ ml) (C.ts _ gw_native_arraycopyName) (C.ts _ gw_static_arraycopyName) (C.ts _ gw_initialized_java_lang_System) (src := a0) (dst := a) (cs := scr) (cd := vp_cell (E.2.1 1) (n1, .inl (fun j => Int32.ofInt (g j)))) (srcPos := Int32.ofInt sp) (destPos := Int32.ofInt dp) (n := Int32.ofInt m) (by rw [hT]; exact hc0) (by rw [hT]; exact hc1)
    hs6 (fun _ h => by cases h) hs3 (fun h => by cases h) hk0 hk1 hkk0 hkk1 (by simp [refKind]) (i_ng (by omega) (by omega)) (i_ng (by omega) (by omega)) (i_ng (by omega) (by omega))
    (by rw [i_tI (by omega) (by omega), i_tI (by omega) (by omega)]; omega)
    (by rw [i_tI (by omega) (by omega), i_tI (by omega) (by omega)]; show ¬ _ > ((arrV (E.2.1 1) n1 _).slots.size : Int); rw [arrV_size]; omega)
    (fun vm₁ _ q hq => by
      rw [em] at hq
      have e : scr.slots.getD ((Int32.ofInt sp).toNatClampNeg + q) .null = .int (f (sp.toNat + q)) := by
        rw [es, Array.getD_eq_getD_getElem?, hs5 _ (by omega)]
        rfl
      refine ⟨?_, ?_⟩
      · rw [e, i_of (f (sp.toNat + q))]
        exact hbf.fit (sp.toNat + q)
      · rw [e]
        exact trivial)
    (g := F0 (xm X) pc ls (iI m :: iI dp :: .ref a :: iI sp :: .ref a0 :: st)) rfl (by rw [h3.1, C.ml]) (rest := st) rfl (by rw [C.co]; exact d) hf (by show 2 * 0 + _ + (nativeFrameWords "java/lang/System" "arraycopy" 5 + 11) ≤ _; have : nativeFrameWords "java/lang/System" "arraycopy" 5 + 11 ≤ 56 := Nat.le_of_ble_eq_true rfl; omega)
  have e1 : copied scr (vp_cell (E.2.1 1) (n1, .inl (fun j => Int32.ofInt (g j)))) (Int32.ofInt sp) (Int32.ofInt dp) (Int32.ofInt m) = vp_cell (E.2.1 1) (n1, .inl (fun j => Int32.ofInt (cpyI (fun j => (f j).toInt) g sp.toNat dp.toNat m.toNat j))) := by
    rw [← cpyI_of, ← es, ← ed, ← em, ef]
    exact va_copiedX (fun z => .int z) scr (E.2.1 1) f (fun j => Int32.ofInt (g j)) hs5 (by rw [es, em]; omega)
  rw [e1] at X' step
  have hlt : a < H.size := (Array.getElem?_eq_some_iff.mp hc1).1
  have hheap : ((T.setVm vm').setCell a (vp_cell (E.2.1 1) (n1, .inl (fun j => Int32.ofInt (cpyI (fun j => (f j).toInt) g sp.toNat dp.toNat m.toNat j))))).heap = H.setIfInBounds a (vp_cell (E.2.1 1) (n1, .inl (fun j => Int32.ofInt (cpyI (fun j => (f j).toInt) g sp.toNat dp.toNat m.toNat j)))) := by rw [← hT]; rfl
  have oq : ∀ q : Nat, q ≠ a → (H.setIfInBounds a (vp_cell (E.2.1 1) (n1, .inl (fun j => Int32.ofInt (cpyI (fun j => (f j).toInt) g sp.toNat dp.toNat m.toNat j)))))[q]? = H[q]? := fun q hq => by simp [Array.getElem?_setIfInBounds, Ne.symm hq]
  have hgb := gb rfl
  obtain ⟨t, a1, b1⟩ := kk _ _ ls (h1.set (e := eB n1 (cpyI (fun j => (f j).toInt) g sp.toNat dp.toNat m.toNat)) (show (H.setIfInBounds a _)[a]? = some _ by simp [Array.getElem?_setIfInBounds, hlt]) hgb (by simp) oq) ⟨by simp; exact h2.1, fun q q1 q2 => by
      rw [oq q (fun e => q2 (by rw [e]; exact hgb))]
      exact h2.2.1 q q1 q2, fun q hq => by
      rcases List.mem_append.mp hq with h | h
      · exact h2.2.2 q h
      · obtain ⟨z, -, hz⟩ := List.mem_map.mp h
        rw [← hz]
        exact hgb⟩ h3 _ hheap X'
  exact ⟨t, step t a1, b1⟩
theorem g_castB {E X own cc nL ret pc L st w k n} (C : CX E X own cc nL ret) {a N : Nat} {b : Bool} {f : Nat → Int} {index : Nat} (h : w.2 a = some (b, eB N f)) (kl : Cond.classLink own index "[B" ∈ GT) (d : decode cc pc = .ok (.checkcast index, 3))
    (kk : G E X nL (pc + 3) L (.ref a :: st) w k n) : G E X nL pc L (.ref a :: st) w k n :=
  fun H locs ls h1 h2 h3 => va_castA (ws := [(a, .inl (E.2.1 1, N, .inl (fun j => Int32.ofInt (f j))))]) C.ex C.co C.ow (C.ts _ kl) (h1.P h) 0 rfl (kt_i C.kt 1 rfl).2 d (kk H locs ls h1 h2 h3)
theorem g_cloneB {E X own cc nL ret pc L st w k n} (C : CX E X own cc nL ret) {a N : Nat} {b : Bool} {f : Nat → Int} {index : Nat} (h : w.2 a = some (b, eB N f)) (hbf : bF f) (ml : Cond.methodLink own index ⟨"[B", "clone", "()Ljava/lang/Object;"⟩ ∈ GT)
    (hf : 1 ≤ (xR X).frames) (hl : 64 ≤ (xR X).locals) (hcat : (st.map fun v => v.category).sum ≤ 8) (hk : k + 1 ≤ (xR X).cells ∧ n + N ≤ (xR X).slots) (d : decode cc pc = .ok (.invokevirtual index, 3))
    (kk : G E X nL (pc + 3) L (.ref w.1 :: st) (wpush w (true, eB N f)) (k + 1) (n + N)) : G E X nL pc L (.ref a :: st) w k n := by
  intro H locs ls h1 h2 h3
  have hP := h1.P h
  have hcell : H[a]? = some (vp_cell (E.2.1 1) (N, .inl (fun j => Int32.ofInt (f j)))) := hP 0 _ rfl
  have hAr := (kt_i C.kt 1 rfl).1
  have hnm : (xs X).vm.findClass "[B" = some (E.2.1 1) := (kt_i C.kt 1 rfl).2
  obtain ⟨c0, t0', f1, f2, f3⟩ := Cond.castable_spec (va_Nw.use (A := xargs X) rfl C.kt.2.2.2.2.2.2.2.2)
  cases hnm.symm.trans f1
  intro T hT Y
  have hcellT : T.heap[a]? = some (vp_cell (E.2.1 1) (N, .inl (fun j => Int32.ofInt (f j)))) := by rw [hT]; exact hcell
  obtain ⟨-, kA, hkA, comp, hkind⟩ := State.isArrayOf_alike Y.warmed.alike (hAr 0 (fun _ => .null))
  obtain ⟨-, kS, hkS, compS, hkindS⟩ := hAr 0 (fun _ => .null)
  have hsz : (vp_cell (E.2.1 1) (N, .inl (fun j => Int32.ofInt (f j)))).slots.size = N := arrV_size _ _ _
  obtain ⟨vm', X', st'⟩ := Y.cloneArray C.ex C.ow (C.ts _ ml) (C.ts _ gw_sameMethod_B_java_lang_Object_clone_Ljava_lang_Object) (C.ts _ gw_native_java_lang_Object_clone_Ljava_lang_Object) (C.ts _ gw_instanceMethod_java_lang_Object_clone_Ljava_lang_Object) (C.ts _ gw_selects_B_B_clone_Ljava_lang_Object_java_lang_Object_clone_Ljava_lang_) (a := a) (cell := vp_cell (E.2.1 1) (N, .inl (fun j => Int32.ofInt (f j)))) hcellT (fun k h => by cases h) (fun h => by cases h) hnm f2 f3
    (fun i v hv => by
      have hk' : T.vm.classes[E.2.1 1]? = some kA := hkA
      have hv' : (arrV (E.2.1 1) N (fun j => Value.int (Int32.ofInt (f j)))).slots[i]? = some v := hv
      have hi : i < N := by
        have := (Array.getElem?_eq_some_iff.mp hv').1
        rw [arrV_size] at this; exact this
      rw [arrV_read _ _ hi] at hv'
      cases hv'
      have hbi := hbf.fit i
      simpa [State.fitsSlot, State.slotType?, vp_cell, arrV, hk', hkind] using hbi)
    (g := F0 (xm X) pc ls (.ref a :: st)) rfl (by rw [h3.1, C.ml]) rfl (by rw [C.co]; exact d) hf (by show 2 * 0 + _ + 14 ≤ _; omega) hk.1 (by rw [hsz]; exact hk.2) (hloader := Vm.clonesLoader_of_array hkS hkindS)
  rw [show ({ cls := (vp_cell (E.2.1 1) (N, .inl (fun j => Int32.ofInt (f j)))).cls, slots := (vp_cell (E.2.1 1) (N, .inl (fun j => Int32.ofInt (f j)))).slots } : Cell) = vp_cell (E.2.1 1) (N, .inl (fun j => Int32.ofInt (f j))) from rfl, hsz] at X'
  generalize hH1 : H.push (vp_cell (E.2.1 1) (N, .inl (fun j => Int32.ofInt (f j)))) = H1
  have z1 : H1.size = H.size + 1 := by rw [← hH1, Array.size_push]
  have e1 : H1[w.1]? = some (vp_cell (E.2.1 1) (N, .inl (fun j => Int32.ofInt (f j)))) := by rw [← hH1, ← h1.1, Array.getElem?_push_size]
  have o1 : ∀ q : Nat, q < H.size → H1[q]? = H[q]? := fun q hq => by rw [← hH1, Array.getElem?_push, if_neg (Nat.ne_of_lt hq)]
  have hb : E.2.2 ≤ w.1 := by rw [← h1.1]; exact Nat.le_trans C.bs h2.1
  obtain ⟨t, b1, b2⟩ := kk H1 locs ls (h1.push (e := eB N f) e1 hb z1 o1) (h2.p1 z1 o1) h3 ((T.setVm vm').pushCell (vp_cell (E.2.1 1) (N, .inl (fun j => Int32.ofInt (f j))))) (by rw [← hH1, ← hT]; rfl) X'
  refine ⟨t, st' t ?_, b2⟩
  rw [show ({ cls := (vp_cell (E.2.1 1) (N, .inl (fun j => Int32.ofInt (f j)))).cls, slots := (vp_cell (E.2.1 1) (N, .inl (fun j => Int32.ofInt (f j)))).slots } : Cell) = vp_cell (E.2.1 1) (N, .inl (fun j => Int32.ofInt (f j))) from rfl, hT, h1.1]
  exact b1
theorem pn_J0 : plainName RJ0 = true := by decide +kernel
theorem pn_J1 : plainName RJ1 = true := by decide +kernel
theorem pn_J2 : plainName RJ2 = true := by decide +kernel
theorem pn_J3 : plainName RJ3 = true := by decide +kernel
theorem pn_J4 : plainName RJ4 = true := by decide +kernel
theorem pn_J5 : plainName RJ5 = true := by decide +kernel
theorem pn_J6 : plainName RJ6 = true := by decide +kernel
theorem pn_J7 : plainName RJ7 = true := by decide +kernel
theorem pn_J8 : plainName RJ8 = true := by decide +kernel
theorem pn_J11 : plainName RJ11 = true := by decide +kernel
theorem g_getc {K : KC} {E X own cc nL ret pc L st w k n} (C : CX E X own cc nL ret) (hT : HT K E (xs X) (xs X).heap) {index : Nat} (fl : Cond.fieldLink own index "java/lang/String" "COMPACT_STRINGS" "Z" ∈ GT) (d : decode cc pc = .ok (.getstatic index, 3)) (kk : G E X nL (pc + 3) L (iI 1 :: st) w k n) : G E X nL pc L st w k n :=
  g_gets C (v := iI 1) ((show Value.int 1 = iI 1 from congrArg Value.int (by decide)) ▸ hT.2.2.1) fl d kk
/-! StringBuilder by its shape: where its bytes lie, how many letters, how many places -/
def SBw (w : Wd) (a v n m : Nat) : Prop := ∃ (mb : Int) (f : Nat → Int), w.2 a = some (true, eO 1 [.ref v, iI 0, iI mb, iI (n : Int)]) ∧ w.2 v = some (true, eB m f) ∧ bF f ∧ a ≠ v ∧ n ≤ m
def FrY (w u : Wd) (a v : Nat) : Prop := w.1 ≤ u.1 ∧ ∀ b, b < w.1 → b ≠ a → b ≠ v → u.2 b = w.2 b
theorem FrY.rf (w : Wd) (a v : Nat) : FrY w w a v := ⟨Nat.le_refl _, fun _ _ _ _ => rfl⟩
theorem FrY.tr {w u x : Wd} {a v v' : Nat} (h : FrY w u a v) (g : FrY u x a v') (hv : v' = v ∨ w.1 ≤ v') : FrY w x a v := ⟨Nat.le_trans h.1 g.1, fun b h1 h2 h3 => by rw [g.2 b (by have := h.1; omega) h2 (by omega), h.2 b h1 h2 h3]⟩
theorem FrY.set {w u : Wd} {a v b : Nat} (h : FrY w u a v) (hb : b = a ∨ b = v ∨ w.1 ≤ b) (e : WdE) : FrY w (wset u b e) a v := ⟨h.1, fun c h1 h2 h3 => by rw [wset_n (by omega)]; exact h.2 c h1 h2 h3⟩
theorem FrY.push {w u : Wd} {a v : Nat} (h : FrY w u a v) (e : WdE) : FrY w (wpush u e) a v := ⟨Nat.le_succ_of_le h.1, fun c h1 h2 h3 => by rw [wpush_n (by have := h.1; omega)]; exact h.2 c h1 h2 h3⟩
theorem FrY.fr {w0 w u : Wd} {a v : Nat} (h0 : Fr w0 w) (h : FrY w u a v) (ha : w0.1 ≤ a) (hv : w0.1 ≤ v) : Fr w0 u := ⟨Nat.le_trans h0.1 h.1, fun b hb => by rw [h.2 b (by have := h0.1; omega) (by omega) (by omega)]; exact h0.2 b hb⟩
def capG (q m : Nat) : Nat := if q ≤ m then m else if m + 2 ≤ q - m then q else 2 * m + 2
def gC (q m : Nat) : Nat := if q ≤ m then 0 else 1
def gS (q m : Nat) : Nat := if q ≤ m then 0 else capG q m
theorem capG_ge (q m : Nat) : q ≤ capG q m ∧ m ≤ capG q m := by unfold capG; split <;> (try split) <;> omega
theorem b255 (x : Int32) : ∃ y : Int, x &&& Int32.ofInt 255 = Int32.ofInt y ∧ 0 ≤ y ∧ y ≤ 255 := by
  refine ⟨x.toInt % (2 : Int) ^ 8, ?_, ?_, ?_⟩
  · have e := i_mask (x := x.toInt) (m := 255) 8 (by omega) (by decide)
    rw [← i_of x] at e
    exact e
  · exact Int.emod_nonneg _ (by decide)
  · have := Int.emod_lt_of_pos x.toInt (b := (2 : Int) ^ 8) (by decide)
    have e : (2 : Int) ^ 8 = 256 := by decide
    omega
theorem i2c_n {y : Int} (h0 : 0 ≤ y) (h1 : y ≤ 65535) : ((Int32.ofInt y).toUInt32 % 65536).toInt32 = Int32.ofInt y := by
  obtain ⟨k, rfl⟩ := Int.eq_ofNat_of_zero_le h0
  have e1 : (Int32.ofInt (k : Int)).toUInt32 = UInt32.ofNat k := by
    apply UInt32.toBitVec_inj.mp
    show (Int32.ofInt (k : Int)).toBitVec = _
    show BitVec.ofInt 32 (k : Int) = _
    rw [BitVec.ofInt_natCast]
    rfl
  have e2 : UInt32.ofNat k % 65536 = UInt32.ofNat k := by
    apply UInt32.toNat_inj.mp
    rw [UInt32.toNat_mod, UInt32.toNat_ofNat_of_lt' (by show k < 4294967296; omega)]
    exact Nat.mod_eq_of_lt (by show k < 65536; omega)
  rw [e1, e2]
  apply Int32.toBitVec_inj.mp
  show (UInt32.ofNat k).toBitVec = BitVec.ofInt 32 (k : Int)
  rw [BitVec.ofInt_natCast]
  rfl
theorem i_shr0 {x : Int} (hx : -2147483648 ≤ x ∧ x < 2147483648) : Int32.ofInt x >>> (Int32.ofInt 0 &&& 31) = Int32.ofInt x := by
  rw [i_shr hx (by omega)]; simp
theorem i_shl0 (x : Int) : Int32.ofInt x <<< (Int32.ofInt 0 &&& 31) = Int32.ofInt x := by
  apply Int32.toBitVec_inj.mp
  rw [Int32.toBitVec_shiftLeft]
  show (Int32.ofInt x).toBitVec <<< ((Int32.ofInt 0 &&& 31).toBitVec.smod 32) = _
  rw [show ((Int32.ofInt 0 &&& 31).toBitVec.smod 32) = 0#32 by decide]
  exact BitVec.shiftLeft_zero _
set_option maxHeartbeats 4000000 in
set_option maxRecDepth 100000 in
theorem c_J5_isLatin1_aae02 (l : Launch) {K : KC} {E : GE} {w : Wd} {a v n m : Nat} (hS : SBw w a v n m) : St K E l yJ5_isLatin1_aae02 cJ5_isLatin1_aae02 1 (some .boolean) 0 (0) (0) [.ref a] w (fun r w' => r = some (iI 1) ∧ w' = w) := by
  refine st_intro [some (.ref a)] rfl (Nat.le_of_ble_eq_true rfl) pn_J5 ?_
  intro X C hT hRm hl hnm hQ
  obtain ⟨hRf, hRl, hRc, hRs⟩ := hRm
  refine g_wf (fun hwf => ?_)
  obtain ⟨mb, f, hO, hV, hF, hav, hnm'⟩ := hS
  refine g_getc C hT fl_RJ5_18 dJ5_isLatin1_aae02_0 ?_
  refine g_if_eq (tgt := 17) C dJ5_isLatin1_aae02_3 (by decide) (by omega) (fun h3 => ?_) (fun h3 => ?_)
  · omega
  · refine g_aload_n C dJ5_isLatin1_aae02_6 rfl ?_
    refine g_get (ci := 1) C rfl inTJ4 1 (by decide) fl_RJ5_22 rfl hO rfl dJ5_isLatin1_aae02_7 ?_
    refine g_if_ne (tgt := 17) C dJ5_isLatin1_aae02_10 (by decide) (by omega) (fun h10 => ?_) (fun h10 => ?_)
    · omega
    · refine g_iconst C dJ5_isLatin1_aae02_13 ?_
      refine g_goto (tgt := 18) C dJ5_isLatin1_aae02_14 (by decide) ?_
      exact g_zreturn C hQ dJ5_isLatin1_aae02_18 rfl (Nat.le_refl _) (Nat.le_refl _) ⟨rfl, rfl⟩
set_option maxHeartbeats 4000000 in
set_option maxRecDepth 100000 in
theorem c_J1_canEncode_fc78d (l : Launch) {K : KC} {E : GE} {w : Wd} {x : Int} (hx : 0 ≤ x ∧ x ≤ 255) : St K E l yJ1_canEncode_fc78d cJ1_canEncode_fc78d 1 (some .boolean) 0 (0) (0) [iI x] w (fun r w' => r = some (iI 1) ∧ w' = w) := by
  refine st_intro [some (iI x)] rfl (Nat.le_of_ble_eq_true rfl) pn_J1 ?_
  intro X C hT hRm hl hnm hQ
  obtain ⟨hRf, hRl, hRc, hRs⟩ := hRm
  refine g_wf (fun hwf => ?_)
  refine g_iload_n C dJ1_canEncode_fc78d_0 rfl ?_
  refine g_sipush C dJ1_canEncode_fc78d_1 (by decide) ?_
  refine g_icmp_gt (tgt := 11) C dJ1_canEncode_fc78d_4 (by decide) (by omega) (by omega) (fun h4 => ?_) (fun h4 => ?_)
  · omega
  · refine g_iconst C dJ1_canEncode_fc78d_7 ?_
    refine g_goto (tgt := 12) C dJ1_canEncode_fc78d_8 (by decide) ?_
    exact g_zreturn C hQ dJ1_canEncode_fc78d_12 rfl (Nat.le_refl _) (Nat.le_refl _) ⟨rfl, rfl⟩
set_option maxHeartbeats 4000000 in
set_option maxRecDepth 100000 in
theorem c_J8_newLength_cabcc (l : Launch) {K : KC} {E : GE} {w : Wd} {x y z : Int} (hx : 0 ≤ x ∧ x ≤ 100000) (hy : 1 ≤ y ∧ y ≤ 300000) (hz : 1 ≤ z ∧ z ≤ 300000) : St K E l yJ8_newLength_cabcc cJ8_newLength_cabcc 4 (some .int) 1 (0) (0) [iI x, iI y, iI z] w (fun r w' => r = some (iI ((if y < z then z else y) + x)) ∧ w' = w) := by
  refine st_intro [some (iI x), some (iI y), some (iI z), none] rfl (Nat.le_of_ble_eq_true rfl) pn_J8 ?_
  intro X C hT hRm hl hnm hQ
  obtain ⟨hRf, hRl, hRc, hRs⟩ := hRm
  refine g_wf (fun hwf => ?_)
  refine g_iload_n C dJ8_newLength_cabcc_0 rfl ?_
  refine g_iload_n C dJ8_newLength_cabcc_1 rfl ?_
  refine g_iload_n C dJ8_newLength_cabcc_2 rfl ?_
  refine g_max C ml_RJ8_194 (by omega) (by omega) (by omega) (by omega) (Nat.le_of_ble_eq_true rfl) (by omega) dJ8_newLength_cabcc_3 ?_
  have hmx : 1 ≤ (if y < z then z else y) ∧ (if y < z then z else y) ≤ 300000 := by split <;> omega
  generalize (if y < z then z else y) = q at *
  refine g_iadd C dJ8_newLength_cabcc_6 ?_
  rw [Int.add_comm x q]
  refine g_istore_n C dJ8_newLength_cabcc_7 (by decide) rfl ?_
  refine g_iconst C dJ8_newLength_cabcc_8 ?_
  refine g_iload_n C dJ8_newLength_cabcc_9 rfl ?_
  refine g_icmp_ge (tgt := 21) C dJ8_newLength_cabcc_10 (by decide) (by omega) (by omega) (fun h10 => ?_) (fun h10 => ?_)
  · omega
  · refine g_iload_n C dJ8_newLength_cabcc_13 rfl ?_
    refine g_ldc (z := 2147483639) C ko_RJ8_200 (by decide) dJ8_newLength_cabcc_14 ?_
    refine g_icmp_gt (tgt := 21) C dJ8_newLength_cabcc_16 (by decide) (by omega) (by omega) (fun h16 => ?_) (fun h16 => ?_)
    · omega
    · refine g_iload_n C dJ8_newLength_cabcc_19 rfl ?_
      exact g_ireturn C hQ dJ8_newLength_cabcc_20 (Nat.le_refl _) (Nat.le_refl _) ⟨rfl, rfl⟩
set_option maxHeartbeats 4000000 in
set_option maxRecDepth 100000 in
theorem c_J5_newCapacity_0f7a4 (l : Launch) {K : KC} {E : GE} {w : Wd} {a v n m : Nat} (hS : SBw w a v n m) {q : Nat} (hq : m < q ∧ q ≤ 200000) (hm : m ≤ 100000) : St K E l yJ5_newCapacity_0f7a4 cJ5_newCapacity_0f7a4 6 (some .int) 2 (0) (0) [.ref a, iI (q : Int)] w (fun r w' => r = some (iI (capG q m : Nat)) ∧ w' = w) := by
  refine st_intro [some (.ref a), some (iI (q : Int)), none, none, none, none] rfl (Nat.le_of_ble_eq_true rfl) pn_J5 ?_
  intro X C hT hRm hl hnm hQ
  obtain ⟨hRf, hRl, hRc, hRs⟩ := hRm
  refine g_wf (fun hwf => ?_)
  obtain ⟨mb, f, hO, hV, hF, hav, hnm'⟩ := hS
  refine g_aload_n C dJ5_newCapacity_0f7a4_0 rfl ?_
  refine g_get (ci := 1) C rfl inTJ4 0 (by decide) fl_RJ5_15 rfl hO rfl dJ5_newCapacity_0f7a4_1 ?_
  refine g_alen C hV (Or.inr (Or.inl ⟨_, rfl⟩)) dJ5_newCapacity_0f7a4_4 ?_
  refine g_istore_n C dJ5_newCapacity_0f7a4_5 (by decide) rfl ?_
  refine g_iload_n C dJ5_newCapacity_0f7a4_6 rfl ?_
  refine g_aload_n C dJ5_newCapacity_0f7a4_7 rfl ?_
  refine g_get (ci := 1) C rfl inTJ4 1 (by decide) fl_RJ5_22 rfl hO rfl dJ5_newCapacity_0f7a4_8 ?_
  refine g_ishl (z := (q : Int)) C dJ5_newCapacity_0f7a4_11 (i_shl0 _) ?_
  refine g_istore_n C dJ5_newCapacity_0f7a4_12 (by decide) rfl ?_
  refine g_iload_n C dJ5_newCapacity_0f7a4_13 rfl ?_
  refine g_iload_n C dJ5_newCapacity_0f7a4_14 rfl ?_
  refine g_isub C dJ5_newCapacity_0f7a4_15 ?_
  refine g_istore C dJ5_newCapacity_0f7a4_16 (by decide) rfl ?_
  refine g_iload_n C dJ5_newCapacity_0f7a4_18 rfl ?_
  refine g_iload C dJ5_newCapacity_0f7a4_19 rfl ?_
  refine g_iload_n C dJ5_newCapacity_0f7a4_21 rfl ?_
  refine g_iconst C dJ5_newCapacity_0f7a4_22 ?_
  refine g_aload_n C dJ5_newCapacity_0f7a4_23 rfl ?_
  refine g_get (ci := 1) C rfl inTJ4 1 (by decide) fl_RJ5_22 rfl hO rfl dJ5_newCapacity_0f7a4_24 ?_
  refine g_ishl (z := 2) C dJ5_newCapacity_0f7a4_27 (i_shl0 _) ?_
  refine g_iadd C dJ5_newCapacity_0f7a4_28 ?_
  refine t_callS C hT (c_J8_newLength_cabcc _ (x := (m : Int)) (y := (q : Int) - m) (z := (m : Int) + 2) (by omega) (by omega) (by omega)) ml_RJ5_114 sm_yJ8_newLength_cabcc in_RJ8 co_yJ8_newLength_cabcc hd_J8_newLength_cabcc rfl ⟨by omega, by omega⟩ rfl (Nat.le_of_ble_eq_true rfl) ⟨by omega, by omega⟩ dJ5_newCapacity_0f7a4_29 (fun v29 w29 hp29 => ?_)
  obtain ⟨rfl, hw29⟩ := hp29
  subst w29
  have hcap : (if (q : Int) - m < (m : Int) + 2 then (m : Int) + 2 else (q : Int) - m) + m = ((capG q m : Nat) : Int) := by
    rw [show capG q m = (if m + 2 ≤ q - m then q else 2 * m + 2) from if_neg (by omega)]
    by_cases c : m + 2 ≤ q - m
    · rw [if_pos c, if_neg (by omega)]; omega
    · rw [if_neg c, if_pos (by omega)]; omega
  rw [hcap]
  have hcq : capG q m ≤ 200002 + m := by unfold capG; split <;> (try split) <;> omega
  refine g_istore C dJ5_newCapacity_0f7a4_32 (by decide) rfl ?_
  refine g_iload C dJ5_newCapacity_0f7a4_34 rfl ?_
  refine g_ldc (z := 2147483647) C ko_RJ5_39 (by decide) dJ5_newCapacity_0f7a4_36 ?_
  refine g_icmp_ne (tgt := 51) C dJ5_newCapacity_0f7a4_38 (by decide) (by omega) (by omega) (fun h38 => ?_) (fun h38 => ?_)
  · refine g_iload C dJ5_newCapacity_0f7a4_51 rfl ?_
    refine g_aload_n C dJ5_newCapacity_0f7a4_53 rfl ?_
    refine g_get (ci := 1) C rfl inTJ4 1 (by decide) fl_RJ5_22 rfl hO rfl dJ5_newCapacity_0f7a4_54 ?_
    refine g_ishr (z := (capG q m : Nat)) C dJ5_newCapacity_0f7a4_57 (i_shr0 (by omega)) ?_
    exact g_ireturn C hQ dJ5_newCapacity_0f7a4_58 (Nat.le_refl _) (Nat.le_refl _) ⟨rfl, rfl⟩
  · omega
set_option maxHeartbeats 4000000 in
set_option maxRecDepth 100000 in
theorem c_J7_copyOf_9075b (l : Launch) {K : KC} {E : GE} {w : Wd} {a m q : Nat} {f : Nat → Int} (ha : w.2 a = some (true, eB m f)) (hF : bF f) (hq : m < q ∧ q ≤ 400000) : St K E l yJ7_copyOf_9075b cJ7_copyOf_9075b 3 (some (.array .byte)) 1 (1) (q) [.ref a, iI (q : Int)] w (fun r w' => r = some (.ref w.1) ∧ ∃ g, w' = wpush w (true, eB q g) ∧ bF g) := by
  refine st_intro [some (.ref a), some (iI (q : Int)), none] rfl (Nat.le_of_ble_eq_true rfl) pn_J7 ?_
  intro X C hT hRm hl hnm hQ
  obtain ⟨hRf, hRl, hRc, hRs⟩ := hRm
  refine g_wf (fun hwf => ?_)
  refine g_iload_n C dJ7_copyOf_9075b_0 rfl ?_
  refine g_aload_n C dJ7_copyOf_9075b_1 rfl ?_
  refine g_alen C ha (Or.inr (Or.inl ⟨_, rfl⟩)) dJ7_copyOf_9075b_2 ?_
  refine g_icmp_ne (tgt := 14) C dJ7_copyOf_9075b_3 (by decide) (by omega) (by omega) (fun h3 => ?_) (fun h3 => ?_)
  · have hne : a ≠ w.1 := Nat.ne_of_lt (hwf a _ ha)
    refine g_iload_n C dJ7_copyOf_9075b_14 rfl ?_
    refine g_newB C gw_arrayClass_byte (N := q) rfl (by omega) (by omega) dJ7_copyOf_9075b_15 ?_
    refine g_astore_n C dJ7_copyOf_9075b_17 (by decide) rfl ?_
    refine g_aload_n C dJ7_copyOf_9075b_18 rfl ?_
    refine g_iconst C dJ7_copyOf_9075b_19 ?_
    refine g_aload_n C dJ7_copyOf_9075b_20 rfl ?_
    refine g_iconst C dJ7_copyOf_9075b_21 ?_
    refine g_aload_n C dJ7_copyOf_9075b_22 rfl ?_
    refine g_alen C (by rw [wpush_n hne]; exact ha) (Or.inr (Or.inl ⟨_, rfl⟩)) dJ7_copyOf_9075b_23 ?_
    refine g_iload_n C dJ7_copyOf_9075b_24 rfl ?_
    refine g_min C ml_RJ7_304 (by omega) (by omega) (by omega) (by omega) (Nat.le_of_ble_eq_true rfl) (by omega) dJ7_copyOf_9075b_25 ?_
    refine g_acopyB C (f := f) (g := fun _ => 0) ⟨by rw [wpush_n hne]; exact ha, wpush_s, ⟨by omega, by omega, by split <;> omega, by split <;> omega, by split <;> omega, by omega, by omega⟩, hF⟩ ml_RJ7_150 (by omega) (by omega) (Nat.le_of_ble_eq_true rfl) dJ7_copyOf_9075b_28 ?_
    rw [wset_push]
    refine g_aload_n C dJ7_copyOf_9075b_31 rfl ?_
    exact g_areturn C (Or.inr ⟨_, rfl⟩) hQ (Or.inr ⟨_, rfl⟩) dJ7_copyOf_9075b_32 (by omega) (by omega) ⟨rfl, _, rfl, hF.cpy bF.zero _ _ _⟩
  · omega
set_option maxHeartbeats 4000000 in
set_option maxRecDepth 100000 in
theorem c_J5_ensureCapacityInternal_d00df (l : Launch) {K : KC} {E : GE} {w : Wd} {a v n m : Nat} (hS : SBw w a v n m) {q : Nat} (hq : q ≤ 200000) (hm : m ≤ 100000) : St K E l yJ5_ensureCapacityInternal_d00df cJ5_ensureCapacityInternal_d00df 3 none 3 (gC q m) (gS q m) [.ref a, iI (q : Int)] w (fun r w' => r = none ∧ ∃ v', SBw w' a v' n (capG q m) ∧ (v' = v ∨ w.1 ≤ v') ∧ FrY w w' a v) := by
  refine st_intro [some (.ref a), some (iI (q : Int)), none] rfl (Nat.le_of_ble_eq_true rfl) pn_J5 ?_
  intro X C hT hRm hl hnm hQ
  obtain ⟨hRf, hRl, hRc, hRs⟩ := hRm
  refine g_wf (fun hwf => ?_)
  have hS0 := hS
  obtain ⟨mb, f, hO, hV, hF, hav, hnm'⟩ := hS
  refine g_aload_n C dJ5_ensureCapacityInternal_d00df_0 rfl ?_
  refine g_get (ci := 1) C rfl inTJ4 0 (by decide) fl_RJ5_15 rfl hO rfl dJ5_ensureCapacityInternal_d00df_1 ?_
  refine g_alen C hV (Or.inr (Or.inl ⟨_, rfl⟩)) dJ5_ensureCapacityInternal_d00df_4 ?_
  refine g_aload_n C dJ5_ensureCapacityInternal_d00df_5 rfl ?_
  refine g_get (ci := 1) C rfl inTJ4 1 (by decide) fl_RJ5_22 rfl hO rfl dJ5_ensureCapacityInternal_d00df_6 ?_
  refine g_ishr (z := (m : Int)) C dJ5_ensureCapacityInternal_d00df_9 (i_shr0 (by omega)) ?_
  refine g_istore_n C dJ5_ensureCapacityInternal_d00df_10 (by decide) rfl ?_
  refine g_iload_n C dJ5_ensureCapacityInternal_d00df_11 rfl ?_
  refine g_iload_n C dJ5_ensureCapacityInternal_d00df_12 rfl ?_
  refine g_isub C dJ5_ensureCapacityInternal_d00df_13 ?_
  refine g_if_le (tgt := 38) C dJ5_ensureCapacityInternal_d00df_14 (by decide) (by omega) (fun h14 => ?_) (fun h14 => ?_)
  · exact g_return C hQ dJ5_ensureCapacityInternal_d00df_38 (by omega) (by omega) ⟨rfl, (by
      first
      | exact ⟨v, by rw [show capG q m = m by unfold capG; rw [if_pos (by omega)]]; exact ⟨mb, f, hO, hV, hF, hav, hnm'⟩, Or.inl rfl, FrY.rf _ _ _⟩
      | exact ⟨w.1, ⟨mb, g9, wset_s, by rw [wset_n (Nat.ne_of_gt (hwf a _ hO))]; exact wpush_s, hg9, Nat.ne_of_lt (hwf a _ hO), by omega⟩, Or.inr (Nat.le_refl _), ((FrY.rf w a v).push _).set (Or.inl rfl) _⟩)⟩
  · have hqm : ¬ q ≤ m := by omega
    have egc : gC q m = 1 := if_neg hqm
    have egs : gS q m = capG q m := if_neg hqm
    have hcq : m < capG q m ∧ capG q m ≤ 400000 := by unfold capG; rw [if_neg hqm]; split <;> omega
    refine g_aload_n C dJ5_ensureCapacityInternal_d00df_17 rfl ?_
    refine g_aload_n C dJ5_ensureCapacityInternal_d00df_18 rfl ?_
    refine g_get (ci := 1) C rfl inTJ4 0 (by decide) fl_RJ5_15 rfl hO rfl dJ5_ensureCapacityInternal_d00df_19 ?_
    refine g_aload_n C dJ5_ensureCapacityInternal_d00df_22 rfl ?_
    refine g_iload_n C dJ5_ensureCapacityInternal_d00df_23 rfl ?_
    refine t_callU (owner := RJ5) C hT (c_J5_newCapacity_0f7a4 _ hS0 (q := q) (by omega) hm) (RcV.ob (ci := 1) C rfl hO) rfl ml_RJ5_104 gw_sameMethod_java_lang_AbstractStringBuilder_java_lang_AbstractStringBui_1917 se_RJ4__yJ5_newCapacity_0f7a4 im_yJ5_newCapacity_0f7a4 in_RJ5 co_yJ5_newCapacity_0f7a4 hd_J5_newCapacity_0f7a4 rfl ⟨by omega, by omega⟩ rfl (Nat.le_of_ble_eq_true rfl) ⟨by omega, by omega⟩ dJ5_ensureCapacityInternal_d00df_24 (fun v24 w24 hp24 => ?_)
    obtain ⟨rfl, hw24⟩ := hp24
    subst w24
    refine g_aload_n C dJ5_ensureCapacityInternal_d00df_27 rfl ?_
    refine g_get (ci := 1) C rfl inTJ4 1 (by decide) fl_RJ5_22 rfl hO rfl dJ5_ensureCapacityInternal_d00df_28 ?_
    refine g_ishl (z := ((capG q m : Nat) : Int)) C dJ5_ensureCapacityInternal_d00df_31 (i_shl0 _) ?_
    refine t_callS C hT (c_J7_copyOf_9075b _ hV hF (q := capG q m) hcq) ml_RJ5_108 sm_yJ7_copyOf_9075b in_RJ7 co_yJ7_copyOf_9075b hd_J7_copyOf_9075b rfl ⟨by omega, by omega⟩ rfl (Nat.le_of_ble_eq_true rfl) ⟨by omega, by omega⟩ dJ5_ensureCapacityInternal_d00df_32 (fun v32 w32 hp32 => ?_)
    obtain ⟨rfl, g9, rfl, hg9⟩ := hp32
    have hO9 : (wpush w (true, eB (capG q m) g9)).2 a = some (true, eO 1 [.ref v, iI 0, iI mb, iI (n : Int)]) := by rw [wpush_n (Nat.ne_of_lt (hwf a _ hO))]; exact hO
    refine g_put (ci := 1) C rfl inTJ4 tyJ4 tyJ4_ok nmJ4 0 (by decide) fl_RJ5_15 rfl rfl hO9 (Nat.le_of_ble_eq_true rfl) rfl rfl dJ5_ensureCapacityInternal_d00df_35 ?_
    exact g_return C hQ dJ5_ensureCapacityInternal_d00df_38 (by omega) (by omega) ⟨rfl, (by
      first
      | exact ⟨v, by rw [show capG q m = m by unfold capG; rw [if_pos (by omega)]]; exact ⟨mb, f, hO, hV, hF, hav, hnm'⟩, Or.inl rfl, FrY.rf _ _ _⟩
      | exact ⟨w.1, ⟨mb, g9, wset_s, by rw [wset_n (Nat.ne_of_gt (hwf a _ hO))]; exact wpush_s, hg9, Nat.ne_of_lt (hwf a _ hO), by omega⟩, Or.inr (Nat.le_refl _), ((FrY.rf w a v).push _).set (Or.inl rfl) _⟩)⟩
set_option maxHeartbeats 4000000 in
set_option maxRecDepth 100000 in
theorem c_J5_append_3fe6f (l : Launch) {K : KC} {E : GE} {w : Wd} {a v n m : Nat} (hS : SBw w a v n m) {x : Int} (hx : 0 ≤ x ∧ x ≤ 255) (hn : n ≤ 100000) (hm : m ≤ 100000) : St K E l yJ5_append_3fe6f cJ5_append_3fe6f 2 (some (.object "java/lang/AbstractStringBuilder")) 4 (gC (n + 1) m) (gS (n + 1) m) [.ref a, iI x] w (fun r w' => r = some (.ref a) ∧ ∃ (v' : Nat), SBw w' a v' (n + 1) (capG (n + 1) m) ∧ (v' = v ∨ w.1 ≤ v') ∧ FrY w w' a v) := by
  refine st_intro [some (.ref a), some (iI x)] rfl (Nat.le_of_ble_eq_true rfl) pn_J5 ?_
  intro X C hT hRm hl hnm hQ
  obtain ⟨hRf, hRl, hRc, hRs⟩ := hRm
  refine g_wf (fun hwf => ?_)
  have hS0 := hS
  obtain ⟨mb, f, hO, hV, hF, hav, hnm'⟩ := hS
  refine g_aload_n C dJ5_append_3fe6f_0 rfl ?_
  refine g_aload_n C dJ5_append_3fe6f_1 rfl ?_
  refine g_get (ci := 1) C rfl inTJ4 3 (by decide) fl_RJ5_79 rfl hO rfl dJ5_append_3fe6f_2 ?_
  refine g_iconst C dJ5_append_3fe6f_5 ?_
  refine g_iadd C dJ5_append_3fe6f_6 ?_
  rw [show (n : Int) + 1 = ((n + 1 : Nat) : Int) by omega]
  refine t_callU (owner := RJ5) C hT (c_J5_ensureCapacityInternal_d00df _ hS0 (q := n + 1) (by omega) hm) (RcV.ob (ci := 1) C rfl hO) rfl ml_RJ5_100 gw_sameMethod_java_lang_AbstractStringBuilder_java_lang_AbstractStringBui_1916 se_RJ4__yJ5_ensureCapacityInternal_d00df im_yJ5_ensureCapacityInternal_d00df in_RJ5 co_yJ5_ensureCapacityInternal_d00df hd_J5_ensureCapacityInternal_d00df rfl ⟨by omega, by omega⟩ rfl (Nat.le_of_ble_eq_true rfl) ⟨by omega, by omega⟩ dJ5_append_3fe6f_7 (fun v7 w7 hp7 => ?_)
  obtain ⟨rfl, v1, hS1, hv1, fr1⟩ := hp7
  obtain ⟨mb1, f1, hO1, hV1, hF1, hav1, hnm1⟩ := id hS1
  have hge := capG_ge (n + 1) m
  refine g_aload_n C dJ5_append_3fe6f_10 rfl ?_
  refine t_callU (owner := RJ5) C hT (c_J5_isLatin1_aae02 _ hS1) (RcV.ob (ci := 1) C rfl hO1) rfl ml_RJ5_83 gw_sameMethod_java_lang_AbstractStringBuilder_java_lang_AbstractStringBui_424 se_RJ4__yJ5_isLatin1_aae02 im_yJ5_isLatin1_aae02 in_RJ5 co_yJ5_isLatin1_aae02 hd_J5_isLatin1_aae02 rfl ⟨by omega, by omega⟩ rfl (Nat.le_of_ble_eq_true rfl) ⟨by omega, by omega⟩ dJ5_append_3fe6f_11 (fun v11 w11 hp11 => ?_)
  obtain ⟨rfl, hw11⟩ := hp11
  subst w11
  refine g_if_eq (tgt := 45) C dJ5_append_3fe6f_14 (by decide) (by omega) (fun h14 => ?_) (fun h14 => ?_)
  · omega
  · refine g_iload_n C dJ5_append_3fe6f_17 rfl ?_
    refine t_callS C hT (c_J1_canEncode_fc78d _ hx) ml_RJ5_191 sm_yJ1_canEncode_fc78d in_RJ1 co_yJ1_canEncode_fc78d hd_J1_canEncode_fc78d rfl ⟨by omega, by omega⟩ rfl (Nat.le_of_ble_eq_true rfl) ⟨by omega, by omega⟩ dJ5_append_3fe6f_18 (fun v18 w18 hp18 => ?_)
    obtain ⟨rfl, hw18⟩ := hp18
    subst w18
    refine g_if_eq (tgt := 45) C dJ5_append_3fe6f_21 (by decide) (by omega) (fun h21 => ?_) (fun h21 => ?_)
    · omega
    · refine g_aload_n C dJ5_append_3fe6f_24 rfl ?_
      refine g_get (ci := 1) C rfl inTJ4 0 (by decide) fl_RJ5_15 rfl hO1 rfl dJ5_append_3fe6f_25 ?_
      refine g_aload_n C dJ5_append_3fe6f_28 rfl ?_
      refine g_dup C dJ5_append_3fe6f_29 rfl ?_
      refine g_get (ci := 1) C rfl inTJ4 3 (by decide) fl_RJ5_79 rfl hO1 rfl dJ5_append_3fe6f_30 ?_
      refine g_dup_x1 C dJ5_append_3fe6f_33 rfl rfl ?_
      refine g_iconst C dJ5_append_3fe6f_34 ?_
      refine g_iadd C dJ5_append_3fe6f_35 ?_
      rw [show (n : Int) + 1 = ((n + 1 : Nat) : Int) by omega]
      refine g_put (ci := 1) C rfl inTJ4 tyJ4 tyJ4_ok nmJ4 3 (by decide) fl_RJ5_79 rfl rfl hO1 (Nat.le_of_ble_eq_true rfl) rfl rfl dJ5_append_3fe6f_36 ?_
      have hV2 : (wset w7 a (true, eO 1 [.ref v1, iI 0, iI mb1, iI ((n + 1 : Nat) : Int)])).2 v1 = some (true, eB (capG (n + 1) m) f1) := by rw [wset_n (Ne.symm hav1)]; exact hV1
      refine g_iload_n C dJ5_append_3fe6f_39 rfl ?_
      obtain ⟨z8, hz8, -⟩ := b_nar (Int32.ofInt x)
      obtain ⟨y8, hy8, y81, y82⟩ := b_nar (Int32.ofInt z8)
      refine g_i2b (z := z8) C dJ5_append_3fe6f_40 hz8 ?_
      refine g_bastore C hV2 (by omega) hy8 dJ5_append_3fe6f_41 ?_
      refine g_goto (tgt := 75) C dJ5_append_3fe6f_42 (by decide) ?_
      refine g_aload_n C dJ5_append_3fe6f_75 rfl ?_
      exact g_areturn C (Or.inl ⟨_, rfl⟩) hQ (Or.inr ⟨_, rfl⟩) dJ5_append_3fe6f_76 (by omega) (by omega) ⟨rfl, v1, ⟨mb1, _, by rw [wset_n hav1]; exact wset_s, wset_s, hF1.iup _ ⟨y81, y82⟩, hav1, by have := capG_ge (n + 1) m; omega⟩, hv1, (fr1.set (Or.inl rfl) _).set (by omega) _⟩
set_option maxHeartbeats 4000000 in
set_option maxRecDepth 100000 in
theorem c_J4_append_cf468 (l : Launch) {K : KC} {E : GE} {w : Wd} {a v n m : Nat} (hS : SBw w a v n m) {x : Int} (hx : 0 ≤ x ∧ x ≤ 255) (hn : n ≤ 100000) (hm : m ≤ 100000) : St K E l yJ4_append_cf468 cJ4_append_cf468 2 (some (.object "java/lang/StringBuilder")) 5 (gC (n + 1) m) (gS (n + 1) m) [.ref a, iI x] w (fun r w' => r = some (.ref a) ∧ ∃ (v' : Nat), SBw w' a v' (n + 1) (capG (n + 1) m) ∧ (v' = v ∨ w.1 ≤ v') ∧ FrY w w' a v) := by
  refine st_intro [some (.ref a), some (iI x)] rfl (Nat.le_of_ble_eq_true rfl) pn_J4 ?_
  intro X C hT hRm hl hnm hQ
  obtain ⟨hRf, hRl, hRc, hRs⟩ := hRm
  refine g_wf (fun hwf => ?_)
  have hS0 := hS
  obtain ⟨mb, f, hO, hV, hF, hav, hnm'⟩ := hS
  refine g_aload_n C dJ4_append_cf468_0 rfl ?_
  refine g_iload_n C dJ4_append_cf468_1 rfl ?_
  refine t_callP C hT (c_J5_append_3fe6f _ hS0 hx hn hm) (ci := 1) rfl hO ml_RJ4_50 gw_sameMethod_java_lang_AbstractStringBuilder_java_lang_AbstractStringBui_1923 gw_superclass_RJ4_RJ5 im_yJ5_append_3fe6f in_RJ5 co_yJ5_append_3fe6f ⟨by decide, hd_J5_append_3fe6f.2.2⟩ rfl ⟨by omega, by omega⟩ rfl (Nat.le_of_ble_eq_true rfl) ⟨by omega, by omega⟩ dJ4_append_cf468_2 (fun v2 w2 hp2 => ?_)
  obtain ⟨rfl, hp2⟩ := hp2
  refine g_pop C dJ4_append_cf468_5 rfl ?_
  refine g_aload_n C dJ4_append_cf468_6 rfl ?_
  exact g_areturn C (Or.inl ⟨_, rfl⟩) hQ (Or.inr ⟨_, rfl⟩) dJ4_append_cf468_7 (by omega) (by omega) ⟨rfl, hp2⟩
theorem p10 : ∀ j : Nat, j < 11 → (1 : Int) ≤ 10 ^ j ∧ (10 : Int) ^ j ≤ 10000000000 := by decide
theorem p10b : ∀ j : Nat, j < 10 → (10 : Int) ^ j ≤ 1000000000 := by decide
def sgb (x : Int) : Nat := if x < 0 then 1 else 0
set_option maxHeartbeats 4000000 in
set_option maxRecDepth 100000 in
theorem c_J6_stringSize_0f7a4 (l : Launch) {K : KC} {E : GE} {w : Wd} {x : Int} (hx : -2147483648 < x ∧ x < 2147483648) : St K E l yJ6_stringSize_0f7a4 cJ6_stringSize_0f7a4 4 (some .int) 0 (0) (0) [iI x] w (fun r w' => (∃ k : Nat, r = some (iI (k : Int)) ∧ sgb x + 1 ≤ k ∧ k ≤ 11 ∧ aB x < 10 ^ (k - sgb x)) ∧ w' = w) := by
  refine st_intro [some (iI x), none, none, none] rfl (Nat.le_of_ble_eq_true rfl) pn_J6 ?_
  intro X C hT hRm hl hnm hQ
  obtain ⟨hRf, hRl, hRc, hRs⟩ := hRm
  refine g_wf (fun hwf => ?_)
  have J11 : ∀ d y : Int, (x < 0 ∧ d = 1 ∧ y = x ∨ 0 ≤ x ∧ d = 0 ∧ y = -x) → G E X 4 11 [some (iI y), some (iI d), none, none] [] w 0 0 := by
    intro d y hd
    have hda : d = (sgb x : Nat) ∧ y = - aB x ∧ 0 ≤ aB x ∧ aB x < 2147483648 := by
      unfold sgb aB
      rcases hd with ⟨c1, c2, c3⟩ | ⟨c1, c2, c3⟩
      · rw [if_pos c1, if_pos c1]; omega
      · rw [if_neg (by omega), if_neg (by omega)]; omega
    obtain ⟨hd1, hd2, hd3, hd4⟩ := hda
    have hsg : sgb x ≤ 1 := by unfold sgb; split <;> omega
    refine g_bipush C dJ6_stringSize_0f7a4_11 (by decide) ?_
    refine g_istore_n C dJ6_stringSize_0f7a4_13 (by decide) rfl ?_
    refine g_iconst C dJ6_stringSize_0f7a4_14 ?_
    refine g_istore_n C dJ6_stringSize_0f7a4_15 (by decide) rfl ?_
    refine g_loop (σ := Nat) (fun j => 1 ≤ j ∧ j ≤ 10) (fun j => G E X 4 16 [some (iI y), some (iI d), some (iI (-(10 : Int) ^ j)), some (iI (j : Int))] [] w 0 0) (fun j => 10 - j) ?_ 1 ⟨by omega, by omega⟩
    rintro j ⟨hj1, hj2⟩ ih
    have hp1 := p10 j (by omega)
    refine g_iload_n C dJ6_stringSize_0f7a4_16 rfl ?_
    refine g_bipush C dJ6_stringSize_0f7a4_17 (by decide) ?_
    refine g_icmp_ge (tgt := 42) C dJ6_stringSize_0f7a4_19 (by decide) (by omega) (by omega) (fun h19 => ?_) (fun h19 => ?_)
    · refine g_bipush C dJ6_stringSize_0f7a4_42 (by decide) ?_
      refine g_iload_n C dJ6_stringSize_0f7a4_44 rfl ?_
      refine g_iadd C dJ6_stringSize_0f7a4_45 ?_
      exact g_ireturn C hQ dJ6_stringSize_0f7a4_46 (Nat.le_refl _) (Nat.le_refl _) ⟨⟨10 + sgb x, by rw [hd1]; rfl, by omega, by omega, by rw [Nat.add_sub_cancel, show (10 : Int) ^ 10 = 10000000000 by decide]; omega⟩, rfl⟩
    · have hp2 := p10b j (by omega)
      refine g_iload_n C dJ6_stringSize_0f7a4_22 rfl ?_
      refine g_iload_n C dJ6_stringSize_0f7a4_23 rfl ?_
      refine g_icmp_le (tgt := 31) C dJ6_stringSize_0f7a4_24 (by decide) (by omega) (by omega) (fun h24 => ?_) (fun h24 => ?_)
      · refine g_bipush C dJ6_stringSize_0f7a4_31 (by decide) ?_
        refine g_iload_n C dJ6_stringSize_0f7a4_33 rfl ?_
        refine g_imul C dJ6_stringSize_0f7a4_34 ?_
        refine g_istore_n C dJ6_stringSize_0f7a4_35 (by decide) rfl ?_
        refine g_iinc C dJ6_stringSize_0f7a4_36 rfl (by decide) rfl ?_
        refine g_goto (tgt := 16) C dJ6_stringSize_0f7a4_39 (by decide) ?_
        rw [show (10 : Int) * -(10 : Int) ^ j = -(10 : Int) ^ (j + 1) by rw [Int.pow_succ]; omega]
        exact ih (j + 1) ⟨by omega, by omega⟩ (by omega)
      · refine g_iload_n C dJ6_stringSize_0f7a4_27 rfl ?_
        refine g_iload_n C dJ6_stringSize_0f7a4_28 rfl ?_
        refine g_iadd C dJ6_stringSize_0f7a4_29 ?_
        exact g_ireturn C hQ dJ6_stringSize_0f7a4_30 (Nat.le_refl _) (Nat.le_refl _) ⟨⟨j + sgb x, by rw [hd1]; rfl, by omega, by omega, by rw [Nat.add_sub_cancel]; omega⟩, rfl⟩
  refine g_iconst C dJ6_stringSize_0f7a4_0 ?_
  refine g_istore_n C dJ6_stringSize_0f7a4_1 (by decide) rfl ?_
  refine g_iload_n C dJ6_stringSize_0f7a4_2 rfl ?_
  refine g_if_lt (tgt := 11) C dJ6_stringSize_0f7a4_3 (by decide) (by omega) (fun h3 => ?_) (fun h3 => ?_)
  · exact J11 _ _ (by omega)
  · refine g_iconst C dJ6_stringSize_0f7a4_6 ?_
    refine g_istore_n C dJ6_stringSize_0f7a4_7 (by decide) rfl ?_
    refine g_iload_n C dJ6_stringSize_0f7a4_8 rfl ?_
    refine g_ineg C dJ6_stringSize_0f7a4_9 ?_
    refine g_istore_n C dJ6_stringSize_0f7a4_10 (by decide) rfl ?_
    exact J11 _ _ (by omega)
set_option maxHeartbeats 4000000 in
set_option maxRecDepth 100000 in
theorem c_J6_getChars_ba4f3 (l : Launch) {K : KC} {E : GE} {w : Wd} {x : Int} {b m p : Nat} {f : Nat → Int} (hx : -2147483648 < x ∧ x < 2147483648) (hb : w.2 b = some (true, eB m f)) (hF : bF f) (hp : sgb x + 1 ≤ p ∧ p ≤ m ∧ m ≤ 1000000) (hxp : aB x < 10 ^ (p - sgb x)) : St K E l yJ6_getChars_ba4f3 cJ6_getChars_ba4f3 7 (some .int) 0 (0) (0) [iI x, iI (p : Int), .ref b] w (fun r w' => (∃ z, r = some (iI z)) ∧ ∃ g, w' = wset w b (true, eB m g) ∧ bF g) := by
  refine st_intro [some (iI x), some (iI (p : Int)), some (.ref b), none, none, none, none] rfl (Nat.le_of_ble_eq_true rfl) pn_J6 ?_
  intro X C hT hRm hl hnm hQ
  obtain ⟨hRf, hRl, hRc, hRs⟩ := hRm
  refine g_wf (fun hwf => ?_)
  obtain ⟨hZ1, d1, hT1⟩ := hT.2.2.2.2.1
  obtain ⟨hZ2, d2, hT2⟩ := hT.2.2.2.2.2.1
  have hsg : sgb x ≤ 1 := by unfold sgb; split <;> omega
  have hax : 0 ≤ aB x ∧ aB x < 2147483648 := by unfold aB; split <;> omega
  obtain ⟨t0, rfl⟩ : ∃ t0, p = t0 + sgb x := ⟨p - sgb x, by omega⟩
  rw [Nat.add_sub_cancel] at hxp
  have J22 : G E X 7 22 [some (iI (-aB x)), some (iI ((t0 + sgb x : Nat) : Int)), some (.ref b), none, none, some (iI (((t0 + sgb x : Nat) : Int))), some (iI (sgb x : Nat))] [] (wset w b (true, eB m f)) 0 0 := by
    refine g_loop (σ := Int × Nat × (Nat → Int)) (fun s => 0 ≤ s.1 ∧ s.1 < 2147483648 ∧ 1 ≤ s.2.1 ∧ s.2.1 + sgb x ≤ m ∧ s.1 < 10 ^ s.2.1 ∧ bF s.2.2) (fun s => G E X 7 22 [some (iI (-s.1)), some (iI ((t0 + sgb x : Nat) : Int)), some (.ref b), none, none, some (iI (((s.2.1 + sgb x : Nat) : Int))), some (iI (sgb x : Nat))] [] (wset w b (true, eB m s.2.2)) 0 0) (fun s => s.1.toNat) ?_ (aB x, t0, f) ⟨hax.1, hax.2, by dsimp only; omega, by dsimp only; omega, hxp, hF⟩
    rintro ⟨k, t, h⟩ hq ih
    obtain ⟨hk0, hk1, ht, htm, hkt, hh⟩ := hq
    dsimp only at hk0 hk1 ht htm hkt hh ⊢
    refine g_iload_n C dJ6_getChars_ba4f3_22 rfl ?_
    refine g_bipush C dJ6_getChars_ba4f3_23 (by decide) ?_
    refine g_icmp_gt (tgt := 72) C dJ6_getChars_ba4f3_25 (by decide) (by omega) (by omega) (fun h25 => ?_) (fun h25 => ?_)
    · refine g_aload_n C dJ6_getChars_ba4f3_72 rfl ?_
      refine g_iinc C dJ6_getChars_ba4f3_73 rfl (by decide) rfl ?_
      refine g_iload C dJ6_getChars_ba4f3_76 rfl ?_
      refine g_gets C hZ1 fl_RJ6_83 dJ6_getChars_ba4f3_78 ?_
      refine g_iload_n C dJ6_getChars_ba4f3_81 rfl ?_
      refine g_ineg C dJ6_getChars_ba4f3_82 ?_
      refine g_tbal C hT1 (by omega) dJ6_getChars_ba4f3_83 ?_
      refine g_bastore C wset_s (by omega) (Classical.choose_spec (b_nar _)).1 dJ6_getChars_ba4f3_84 ?_
      rw [wset_set]
      refine g_iload_n C dJ6_getChars_ba4f3_85 rfl ?_
      refine g_bipush C dJ6_getChars_ba4f3_86 (by decide) ?_
      refine g_icmp_ge (tgt := 104) C dJ6_getChars_ba4f3_88 (by decide) (by omega) (by omega) (fun h88 => ?_) (fun h88 => ?_)
      · refine g_iload C dJ6_getChars_ba4f3_104 rfl ?_
        refine g_if_eq (tgt := 118) C dJ6_getChars_ba4f3_106 (by decide) (by omega) (fun h106 => ?_) (fun h106 => ?_)
        · refine g_iload C dJ6_getChars_ba4f3_118 rfl ?_
          exact g_ireturn C hQ dJ6_getChars_ba4f3_120 (Nat.le_refl _) (Nat.le_refl _) ⟨⟨_, rfl⟩, _, rfl, by first | exact hh.iup _ (Classical.choose_spec (b_nar _)).2 | exact (hh.iup _ (Classical.choose_spec (b_nar _)).2).iup _ (Classical.choose_spec (b_nar _)).2 | exact ((hh.iup _ (Classical.choose_spec (b_nar _)).2).iup _ (Classical.choose_spec (b_nar _)).2).iup _ (Classical.choose_spec (b_nar _)).2⟩
        · refine g_aload_n C dJ6_getChars_ba4f3_109 rfl ?_
          refine g_iinc C dJ6_getChars_ba4f3_110 rfl (by decide) rfl ?_
          refine g_iload C dJ6_getChars_ba4f3_113 rfl ?_
          refine g_bipush C dJ6_getChars_ba4f3_115 (by decide) ?_
          refine g_bastore C wset_s (by omega) (Classical.choose_spec (b_nar _)).1 dJ6_getChars_ba4f3_117 ?_
          rw [wset_set]
          refine g_iload C dJ6_getChars_ba4f3_118 rfl ?_
          exact g_ireturn C hQ dJ6_getChars_ba4f3_120 (Nat.le_refl _) (Nat.le_refl _) ⟨⟨_, rfl⟩, _, rfl, by first | exact hh.iup _ (Classical.choose_spec (b_nar _)).2 | exact (hh.iup _ (Classical.choose_spec (b_nar _)).2).iup _ (Classical.choose_spec (b_nar _)).2 | exact ((hh.iup _ (Classical.choose_spec (b_nar _)).2).iup _ (Classical.choose_spec (b_nar _)).2).iup _ (Classical.choose_spec (b_nar _)).2⟩
      · have ht2 : 2 ≤ t := by
          rcases Nat.lt_or_ge t 2 with q | q
          · have : t = 1 := by omega
            subst this
            rw [show (10 : Int) ^ 1 = 10 by decide] at hkt
            omega
          · exact q
        refine g_aload_n C dJ6_getChars_ba4f3_91 rfl ?_
        refine g_iinc C dJ6_getChars_ba4f3_92 rfl (by decide) rfl ?_
        refine g_iload C dJ6_getChars_ba4f3_95 rfl ?_
        refine g_gets C hZ2 fl_RJ6_87 dJ6_getChars_ba4f3_97 ?_
        refine g_iload_n C dJ6_getChars_ba4f3_100 rfl ?_
        refine g_ineg C dJ6_getChars_ba4f3_101 ?_
        refine g_tbal C hT2 (by omega) dJ6_getChars_ba4f3_102 ?_
        refine g_bastore C wset_s (by omega) (Classical.choose_spec (b_nar _)).1 dJ6_getChars_ba4f3_103 ?_
        rw [wset_set]
        refine g_iload C dJ6_getChars_ba4f3_104 rfl ?_
        refine g_if_eq (tgt := 118) C dJ6_getChars_ba4f3_106 (by decide) (by omega) (fun h106 => ?_) (fun h106 => ?_)
        · refine g_iload C dJ6_getChars_ba4f3_118 rfl ?_
          exact g_ireturn C hQ dJ6_getChars_ba4f3_120 (Nat.le_refl _) (Nat.le_refl _) ⟨⟨_, rfl⟩, _, rfl, by first | exact hh.iup _ (Classical.choose_spec (b_nar _)).2 | exact (hh.iup _ (Classical.choose_spec (b_nar _)).2).iup _ (Classical.choose_spec (b_nar _)).2 | exact ((hh.iup _ (Classical.choose_spec (b_nar _)).2).iup _ (Classical.choose_spec (b_nar _)).2).iup _ (Classical.choose_spec (b_nar _)).2⟩
        · refine g_aload_n C dJ6_getChars_ba4f3_109 rfl ?_
          refine g_iinc C dJ6_getChars_ba4f3_110 rfl (by decide) rfl ?_
          refine g_iload C dJ6_getChars_ba4f3_113 rfl ?_
          refine g_bipush C dJ6_getChars_ba4f3_115 (by decide) ?_
          refine g_bastore C wset_s (by omega) (Classical.choose_spec (b_nar _)).1 dJ6_getChars_ba4f3_117 ?_
          rw [wset_set]
          refine g_iload C dJ6_getChars_ba4f3_118 rfl ?_
          exact g_ireturn C hQ dJ6_getChars_ba4f3_120 (Nat.le_refl _) (Nat.le_refl _) ⟨⟨_, rfl⟩, _, rfl, by first | exact hh.iup _ (Classical.choose_spec (b_nar _)).2 | exact (hh.iup _ (Classical.choose_spec (b_nar _)).2).iup _ (Classical.choose_spec (b_nar _)).2 | exact ((hh.iup _ (Classical.choose_spec (b_nar _)).2).iup _ (Classical.choose_spec (b_nar _)).2).iup _ (Classical.choose_spec (b_nar _)).2⟩
    · have ht3 : 3 ≤ t := by
        rcases Nat.lt_or_ge t 3 with q | q
        · have : t = 1 ∨ t = 2 := by omega
          rcases this with rfl | rfl
          · rw [show (10 : Int) ^ 1 = 10 by decide] at hkt; omega
          · rw [show (10 : Int) ^ 2 = 100 by decide] at hkt; omega
        · exact q
      refine g_iload_n C dJ6_getChars_ba4f3_28 rfl ?_
      refine g_bipush C dJ6_getChars_ba4f3_29 (by decide) ?_
      refine g_idiv C dJ6_getChars_ba4f3_31 (by omega) (by omega) (by omega) ?_
      rw [Int.neg_tdiv, Int.tdiv_eq_ediv_of_nonneg hk0]
      refine g_istore_n C dJ6_getChars_ba4f3_32 (by decide) rfl ?_
      refine g_iload_n C dJ6_getChars_ba4f3_33 rfl ?_
      refine g_bipush C dJ6_getChars_ba4f3_34 (by decide) ?_
      refine g_imul C dJ6_getChars_ba4f3_36 ?_
      refine g_iload_n C dJ6_getChars_ba4f3_37 rfl ?_
      refine g_isub C dJ6_getChars_ba4f3_38 ?_
      rw [show -(k / 100) * 100 - -k = k % 100 by omega]
      have hr100 : 0 ≤ k % 100 ∧ k % 100 < 100 := by omega
      refine g_istore C dJ6_getChars_ba4f3_39 (by decide) rfl ?_
      refine g_iload_n C dJ6_getChars_ba4f3_41 rfl ?_
      refine g_istore_n C dJ6_getChars_ba4f3_42 (by decide) rfl ?_
      refine g_aload_n C dJ6_getChars_ba4f3_43 rfl ?_
      refine g_iinc C dJ6_getChars_ba4f3_44 rfl (by decide) rfl ?_
      refine g_iload C dJ6_getChars_ba4f3_47 rfl ?_
      refine g_gets C hZ1 fl_RJ6_83 dJ6_getChars_ba4f3_49 ?_
      refine g_iload C dJ6_getChars_ba4f3_52 rfl ?_
      refine g_tbal C hT1 (by omega) dJ6_getChars_ba4f3_54 ?_
      refine g_bastore C wset_s (by omega) (Classical.choose_spec (b_nar _)).1 dJ6_getChars_ba4f3_55 ?_
      rw [wset_set]
      refine g_aload_n C dJ6_getChars_ba4f3_56 rfl ?_
      refine g_iinc C dJ6_getChars_ba4f3_57 rfl (by decide) rfl ?_
      refine g_iload C dJ6_getChars_ba4f3_60 rfl ?_
      refine g_gets C hZ2 fl_RJ6_87 dJ6_getChars_ba4f3_62 ?_
      refine g_iload C dJ6_getChars_ba4f3_65 rfl ?_
      refine g_tbal C hT2 (by omega) dJ6_getChars_ba4f3_67 ?_
      refine g_bastore C wset_s (by omega) (Classical.choose_spec (b_nar _)).1 dJ6_getChars_ba4f3_68 ?_
      rw [wset_set]
      refine g_goto (tgt := 22) C dJ6_getChars_ba4f3_69 (by decide) ?_
      first
      | (refine g_eq (by rw [show aB x = - x by unfold aB; rw [if_pos (by omega)], Int.neg_neg, hds]; rfl) rfl J22)
      | (refine g_eq (by rw [show aB x = x by unfold aB; rw [if_neg (by omega)], hds]; rfl) rfl J22)
      | (refine g_drop 3 (g_drop 4 ?_)
         have e3 : ((t + sgb x : Nat) : Int) + -1 + -1 = ((t - 2 + sgb x : Nat) : Int) := by omega
         rw [e3]
         refine ih (k / 100, t - 2, _) ⟨by dsimp only; omega, by dsimp only; omega, by dsimp only; omega, by dsimp only; omega, ?_, (hh.iup _ (Classical.choose_spec (b_nar _)).2).iup _ (Classical.choose_spec (b_nar _)).2⟩ (by dsimp only; omega)
         obtain ⟨u, rfl⟩ : ∃ u, t = u + 2 := ⟨t - 2, by omega⟩
         rw [show (10 : Int) ^ (u + 2) = 10 ^ u * 100 by rw [Int.pow_add]; rfl] at hkt
         show k / 100 < 10 ^ (u + 2 - 2)
         rw [Nat.add_sub_cancel]
         omega)
  rw [wset_id hb] at J22
  have J12 : ∀ d : Int, (x < 0 ∧ d = 1 ∨ 0 ≤ x ∧ d = 0) → G E X 7 12 [some (iI x), some (iI ((t0 + sgb x : Nat) : Int)), some (.ref b), none, none, some (iI ((t0 + sgb x : Nat) : Int)), none] [iI d] w 0 0 := by
    intro d hd
    have hds : d = (sgb x : Nat) := by unfold sgb; rcases hd with ⟨c, c2⟩ | ⟨c, c2⟩; rw [if_pos c]; omega; rw [if_neg (by omega)]; omega
    refine g_istore C dJ6_getChars_ba4f3_12 (by decide) rfl ?_
    refine g_iload C dJ6_getChars_ba4f3_14 rfl ?_
    skip
    refine g_if_ne (tgt := 22) C dJ6_getChars_ba4f3_16 (by decide) (by omega) (fun h16 => ?_) (fun h16 => ?_)
    · first
      | (refine g_eq (by rw [show aB x = - x by unfold aB; rw [if_pos (by omega)], Int.neg_neg, hds]; rfl) rfl J22)
      | (refine g_eq (by rw [show aB x = x by unfold aB; rw [if_neg (by omega)], hds]; rfl) rfl J22)
      | (refine g_drop 3 (g_drop 4 ?_)
         have e3 : ((t + sgb x : Nat) : Int) + -1 + -1 = ((t - 2 + sgb x : Nat) : Int) := by omega
         rw [e3]
         refine ih (k / 100, t - 2, _) ⟨by dsimp only; omega, by dsimp only; omega, by dsimp only; omega, by dsimp only; omega, ?_, (hh.iup _ (Classical.choose_spec (b_nar _)).2).iup _ (Classical.choose_spec (b_nar _)).2⟩ (by dsimp only; omega)
         obtain ⟨u, rfl⟩ : ∃ u, t = u + 2 := ⟨t - 2, by omega⟩
         rw [show (10 : Int) ^ (u + 2) = 10 ^ u * 100 by rw [Int.pow_add]; rfl] at hkt
         show k / 100 < 10 ^ (u + 2 - 2)
         rw [Nat.add_sub_cancel]
         omega)
    · refine g_iload_n C dJ6_getChars_ba4f3_19 rfl ?_
      refine g_ineg C dJ6_getChars_ba4f3_20 ?_
      refine g_istore_n C dJ6_getChars_ba4f3_21 (by decide) rfl ?_
      first
      | (refine g_eq (by rw [show aB x = - x by unfold aB; rw [if_pos (by omega)], Int.neg_neg, hds]; rfl) rfl J22)
      | (refine g_eq (by rw [show aB x = x by unfold aB; rw [if_neg (by omega)], hds]; rfl) rfl J22)
      | (refine g_drop 3 (g_drop 4 ?_)
         have e3 : ((t + sgb x : Nat) : Int) + -1 + -1 = ((t - 2 + sgb x : Nat) : Int) := by omega
         rw [e3]
         refine ih (k / 100, t - 2, _) ⟨by dsimp only; omega, by dsimp only; omega, by dsimp only; omega, by dsimp only; omega, ?_, (hh.iup _ (Classical.choose_spec (b_nar _)).2).iup _ (Classical.choose_spec (b_nar _)).2⟩ (by dsimp only; omega)
         obtain ⟨u, rfl⟩ : ∃ u, t = u + 2 := ⟨t - 2, by omega⟩
         rw [show (10 : Int) ^ (u + 2) = 10 ^ u * 100 by rw [Int.pow_add]; rfl] at hkt
         show k / 100 < 10 ^ (u + 2 - 2)
         rw [Nat.add_sub_cancel]
         omega)
  refine g_iload_n C dJ6_getChars_ba4f3_0 rfl ?_
  refine g_istore C dJ6_getChars_ba4f3_1 (by decide) rfl ?_
  refine g_iload_n C dJ6_getChars_ba4f3_3 rfl ?_
  refine g_if_ge (tgt := 11) C dJ6_getChars_ba4f3_4 (by decide) (by omega) (fun h4 => ?_) (fun h4 => ?_)
  · refine g_iconst C dJ6_getChars_ba4f3_11 ?_
    exact J12 _ (by omega)
  · refine g_iconst C dJ6_getChars_ba4f3_7 ?_
    refine g_goto (tgt := 12) C dJ6_getChars_ba4f3_8 (by decide) ?_
    exact J12 _ (by omega)
set_option maxHeartbeats 4000000 in
set_option maxRecDepth 100000 in
theorem c_J5_append_c97b9 (l : Launch) {K : KC} {E : GE} {w : Wd} {a v n m : Nat} (hS : SBw w a v n m) {x : Int} (hx : -2147483648 < x ∧ x < 2147483648) (hn : n ≤ 100000) (hm : m ≤ 100000) : St K E l yJ5_append_c97b9 cJ5_append_c97b9 4 (some (.object "java/lang/AbstractStringBuilder")) 4 (1) (2 * m + 11) [.ref a, iI x] w (fun r w' => r = some (.ref a) ∧ ∃ v' k : Nat, 1 ≤ k ∧ k ≤ 11 ∧ SBw w' a v' (n + k) (capG (n + k) m) ∧ (v' = v ∨ w.1 ≤ v') ∧ FrY w w' a v) := by
  refine st_intro [some (.ref a), some (iI x), none, none] rfl (Nat.le_of_ble_eq_true rfl) pn_J5 ?_
  intro X C hT hRm hl hnm hQ
  obtain ⟨hRf, hRl, hRc, hRs⟩ := hRm
  refine g_wf (fun hwf => ?_)
  have hS0 := hS
  obtain ⟨mb, f, hO, hV, hF, hav, hnm'⟩ := hS
  refine g_aload_n C dJ5_append_c97b9_0 rfl ?_
  refine g_get (ci := 1) C rfl inTJ4 3 (by decide) fl_RJ5_79 rfl hO rfl dJ5_append_c97b9_1 ?_
  refine g_istore_n C dJ5_append_c97b9_4 (by decide) rfl ?_
  refine g_iload_n C dJ5_append_c97b9_5 rfl ?_
  refine g_iload_n C dJ5_append_c97b9_6 rfl ?_
  refine t_callS C hT (c_J6_stringSize_0f7a4 _ hx) ml_RJ5_245 sm_yJ6_stringSize_0f7a4 in_RJ6 co_yJ6_stringSize_0f7a4 hd_J6_stringSize_0f7a4 rfl ⟨by omega, by omega⟩ rfl (Nat.le_of_ble_eq_true rfl) ⟨by omega, by omega⟩ dJ5_append_c97b9_7 (fun v7 w7 hp7 => ?_)
  obtain ⟨⟨k, rfl, hk1, hk2, hk3⟩, hw7⟩ := hp7
  subst w7
  have hge := capG_ge (n + k) m
  have hcg : capG (n + k) m ≤ 2 * m + 11 := by unfold capG; split <;> (try split) <;> omega
  have hgc : gC (n + k) m ≤ 1 ∧ gS (n + k) m ≤ 2 * m + 11 := by unfold gC gS; split <;> omega
  refine g_iadd C dJ5_append_c97b9_10 ?_
  rw [show (n : Int) + (k : Int) = ((n + k : Nat) : Int) by omega]
  refine g_istore_n C dJ5_append_c97b9_11 (by decide) rfl ?_
  refine g_aload_n C dJ5_append_c97b9_12 rfl ?_
  refine g_iload_n C dJ5_append_c97b9_13 rfl ?_
  refine t_callU (owner := RJ5) C hT (c_J5_ensureCapacityInternal_d00df _ hS0 (q := n + k) (by omega) hm) (RcV.ob (ci := 1) C rfl hO) rfl ml_RJ5_100 gw_sameMethod_java_lang_AbstractStringBuilder_java_lang_AbstractStringBui_1916 se_RJ4__yJ5_ensureCapacityInternal_d00df im_yJ5_ensureCapacityInternal_d00df in_RJ5 co_yJ5_ensureCapacityInternal_d00df hd_J5_ensureCapacityInternal_d00df rfl ⟨by omega, by omega⟩ rfl (Nat.le_of_ble_eq_true rfl) ⟨by omega, by omega⟩ dJ5_append_c97b9_14 (fun v14 w14 hp14 => ?_)
  obtain ⟨rfl, v1, hS1, hv1, fr1⟩ := hp14
  obtain ⟨mb1, f1, hO1, hV1, hF1, hav1, hnm1⟩ := id hS1
  refine g_aload_n C dJ5_append_c97b9_17 rfl ?_
  refine t_callU (owner := RJ5) C hT (c_J5_isLatin1_aae02 _ hS1) (RcV.ob (ci := 1) C rfl hO1) rfl ml_RJ5_83 gw_sameMethod_java_lang_AbstractStringBuilder_java_lang_AbstractStringBui_424 se_RJ4__yJ5_isLatin1_aae02 im_yJ5_isLatin1_aae02 in_RJ5 co_yJ5_isLatin1_aae02 hd_J5_isLatin1_aae02 rfl ⟨by omega, by omega⟩ rfl (Nat.le_of_ble_eq_true rfl) ⟨by omega, by omega⟩ dJ5_append_c97b9_18 (fun v18 w18 hp18 => ?_)
  obtain ⟨rfl, hw18⟩ := hp18
  subst w18
  have hpw : aB x < 10 ^ (n + k - sgb x) := by
    have e : (10 : Int) ^ (n + k - sgb x) = 10 ^ (k - sgb x) * 10 ^ n := by rw [← Int.pow_add]; congr 1; omega
    have h1 : (0 : Int) < 10 ^ (k - sgb x) := Int.pow_pos (by decide)
    have h2 : (0 : Int) < 10 ^ n := Int.pow_pos (by decide)
    have := Int.mul_le_mul_of_nonneg_left (show (1 : Int) ≤ 10 ^ n by omega) (Int.le_of_lt h1)
    rw [e]
    omega
  refine g_if_eq (tgt := 37) C dJ5_append_c97b9_21 (by decide) (by omega) (fun h21 => ?_) (fun h21 => ?_)
  · omega
  · refine g_iload_n C dJ5_append_c97b9_24 rfl ?_
    refine g_iload_n C dJ5_append_c97b9_25 rfl ?_
    refine g_aload_n C dJ5_append_c97b9_26 rfl ?_
    refine g_get (ci := 1) C rfl inTJ4 0 (by decide) fl_RJ5_15 rfl hO1 rfl dJ5_append_c97b9_27 ?_
    refine t_callS C hT (c_J6_getChars_ba4f3 _ (p := n + k) hx hV1 hF1 (by omega) hpw) ml_RJ5_248 sm_yJ6_getChars_ba4f3 in_RJ6 co_yJ6_getChars_ba4f3 hd_J6_getChars_ba4f3 rfl ⟨by omega, by omega⟩ rfl (Nat.le_of_ble_eq_true rfl) ⟨by omega, by omega⟩ dJ5_append_c97b9_30 (fun v30 w30 hp30 => ?_)
    obtain ⟨⟨z30, rfl⟩, g30, rfl, hg30⟩ := hp30
    have hO2 : (wset w14 v1 (true, eB (capG (n + k) m) g30)).2 a = some (true, eO 1 [.ref v1, iI 0, iI mb1, iI (n : Int)]) := by rw [wset_n hav1]; exact hO1
    refine g_pop C dJ5_append_c97b9_33 rfl ?_
    refine g_goto (tgt := 48) C dJ5_append_c97b9_34 (by decide) ?_
    refine g_aload_n C dJ5_append_c97b9_48 rfl ?_
    refine g_iload_n C dJ5_append_c97b9_49 rfl ?_
    refine g_put (ci := 1) C rfl inTJ4 tyJ4 tyJ4_ok nmJ4 3 (by decide) fl_RJ5_79 rfl rfl hO2 (Nat.le_of_ble_eq_true rfl) rfl rfl dJ5_append_c97b9_50 ?_
    refine g_aload_n C dJ5_append_c97b9_53 rfl ?_
    exact g_areturn C (Or.inl ⟨_, rfl⟩) hQ (Or.inr ⟨_, rfl⟩) dJ5_append_c97b9_54 (by omega) (by omega) ⟨rfl, v1, k, by omega, hk2, ⟨mb1, g30, wset_s, by rw [wset_n (Ne.symm hav1)]; exact wset_s, hg30, hav1, hge.1⟩, hv1, (fr1.set (by omega) _).set (Or.inl rfl) _⟩
set_option maxHeartbeats 4000000 in
set_option maxRecDepth 100000 in
theorem c_J4_append_bf812 (l : Launch) {K : KC} {E : GE} {w : Wd} {a v n m : Nat} (hS : SBw w a v n m) {x : Int} (hx : -2147483648 < x ∧ x < 2147483648) (hn : n ≤ 100000) (hm : m ≤ 100000) : St K E l yJ4_append_bf812 cJ4_append_bf812 2 (some (.object "java/lang/StringBuilder")) 5 (1) (2 * m + 11) [.ref a, iI x] w (fun r w' => r = some (.ref a) ∧ ∃ v' k : Nat, 1 ≤ k ∧ k ≤ 11 ∧ SBw w' a v' (n + k) (capG (n + k) m) ∧ (v' = v ∨ w.1 ≤ v') ∧ FrY w w' a v) := by
  refine st_intro [some (.ref a), some (iI x)] rfl (Nat.le_of_ble_eq_true rfl) pn_J4 ?_
  intro X C hT hRm hl hnm hQ
  obtain ⟨hRf, hRl, hRc, hRs⟩ := hRm
  refine g_wf (fun hwf => ?_)
  have hS0 := hS
  obtain ⟨mb, f, hO, hV, hF, hav, hnm'⟩ := hS
  refine g_aload_n C dJ4_append_bf812_0 rfl ?_
  refine g_iload_n C dJ4_append_bf812_1 rfl ?_
  refine t_callP C hT (c_J5_append_c97b9 _ hS0 hx hn hm) (ci := 1) rfl hO ml_RJ4_53 gw_sameMethod_java_lang_AbstractStringBuilder_java_lang_AbstractStringBui_1921 gw_superclass_RJ4_RJ5 im_yJ5_append_c97b9 in_RJ5 co_yJ5_append_c97b9 ⟨by decide, hd_J5_append_c97b9.2.2⟩ rfl ⟨by omega, by omega⟩ rfl (Nat.le_of_ble_eq_true rfl) ⟨by omega, by omega⟩ dJ4_append_bf812_2 (fun v2 w2 hp2 => ?_)
  obtain ⟨rfl, hp2⟩ := hp2
  refine g_pop C dJ4_append_bf812_5 rfl ?_
  refine g_aload_n C dJ4_append_bf812_6 rfl ?_
  exact g_areturn C (Or.inl ⟨_, rfl⟩) hQ (Or.inr ⟨_, rfl⟩) dJ4_append_bf812_7 (by omega) (by omega) ⟨rfl, hp2⟩
set_option maxHeartbeats 4000000 in
set_option maxRecDepth 100000 in
theorem c_J0_coder_7d493 (l : Launch) {K : KC} {E : GE} {w : Wd} {i : Nat} (hi : i < 4) : St K E l yJ0_coder_7d493 cJ0_coder_7d493 1 (some .byte) 0 (0) (0) [.ref (K.1 i)] w (fun r w' => r = some (iI 0) ∧ w' = w) := by
  refine st_intro [some (.ref (K.1 i))] rfl (Nat.le_of_ble_eq_true rfl) pn_J0 ?_
  intro X C hT hRm hl hnm hQ
  obtain ⟨hRf, hRl, hRc, hRs⟩ := hRm
  refine g_wf (fun hwf => ?_)
  refine g_getc C hT fl_RJ0_38 dJ0_coder_7d493_0 ?_
  refine g_if_eq (tgt := 13) C dJ0_coder_7d493_3 (by decide) (by omega) (fun h3 => ?_) (fun h3 => ?_)
  · omega
  · refine g_aload_n C dJ0_coder_7d493_6 rfl ?_
    refine g_kcod C hT hi fl_RJ0_15 dJ0_coder_7d493_7 ?_
    refine g_goto (tgt := 14) C dJ0_coder_7d493_10 (by decide) ?_
    exact g_zreturn C hQ dJ0_coder_7d493_14 rfl (Nat.le_refl _) (Nat.le_refl _) ⟨rfl, rfl⟩
set_option maxHeartbeats 4000000 in
set_option maxRecDepth 100000 in
theorem c_J0_isLatin1_aae02 (l : Launch) {K : KC} {E : GE} {w : Wd} {i : Nat} (hi : i < 4) : St K E l yJ0_isLatin1_aae02 cJ0_isLatin1_aae02 1 (some .boolean) 0 (0) (0) [.ref (K.1 i)] w (fun r w' => r = some (iI 1) ∧ w' = w) := by
  refine st_intro [some (.ref (K.1 i))] rfl (Nat.le_of_ble_eq_true rfl) pn_J0 ?_
  intro X C hT hRm hl hnm hQ
  obtain ⟨hRf, hRl, hRc, hRs⟩ := hRm
  refine g_wf (fun hwf => ?_)
  refine g_getc C hT fl_RJ0_38 dJ0_isLatin1_aae02_0 ?_
  refine g_if_eq (tgt := 17) C dJ0_isLatin1_aae02_3 (by decide) (by omega) (fun h3 => ?_) (fun h3 => ?_)
  · omega
  · refine g_aload_n C dJ0_isLatin1_aae02_6 rfl ?_
    refine g_kcod C hT hi fl_RJ0_15 dJ0_isLatin1_aae02_7 ?_
    refine g_if_ne (tgt := 17) C dJ0_isLatin1_aae02_10 (by decide) (by omega) (fun h10 => ?_) (fun h10 => ?_)
    · omega
    · refine g_iconst C dJ0_isLatin1_aae02_13 ?_
      refine g_goto (tgt := 18) C dJ0_isLatin1_aae02_14 (by decide) ?_
      exact g_zreturn C hQ dJ0_isLatin1_aae02_18 rfl (Nat.le_refl _) (Nat.le_refl _) ⟨rfl, rfl⟩
theorem kBy_r (i : Nat) : (kBy i).length ≤ 16 := by
  match i with
  | 0 => decide
  | 1 => decide
  | 2 => decide
  | _ + 3 => exact Nat.le_refl 16
theorem kBy_b : ∀ i j : Nat, -128 ≤ ((kBy i).getD j 0).toInt ∧ ((kBy i).getD j 0).toInt ≤ 127 := by
  have h : ∀ i : Nat, i < 4 → ∀ j : Nat, j < 17 → -128 ≤ ((kBy i).getD j 0).toInt ∧ ((kBy i).getD j 0).toInt ≤ 127 := by decide +kernel
  intro i j
  have e : kBy i = kBy (if i < 4 then i else 3) := by
    split
    · rfl
    · rename_i q
      match i, q with
      | 0, q => omega
      | 1, q => omega
      | 2, q => omega
      | i + 3, q => rfl
  rw [e]
  rcases Nat.lt_or_ge j 17 with q | q
  · exact h _ (by split <;> omega) j q
  · have hl := kBy_r (if i < 4 then i else 3)
    rw [List.getD_eq_getElem?_getD, List.getElem?_eq_none (by omega)]
    decide
set_option maxHeartbeats 4000000 in
set_option maxRecDepth 100000 in
theorem c_J0_length_8abf5 (l : Launch) {K : KC} {E : GE} {w : Wd} {i : Nat} (hi : i < 4) : St K E l yJ0_length_8abf5 cJ0_length_8abf5 1 (some .int) 1 (0) (0) [.ref (K.1 i)] w (fun r w' => r = some (iI ((kBy i).length : Nat)) ∧ w' = w) := by
  refine st_intro [some (.ref (K.1 i))] rfl (Nat.le_of_ble_eq_true rfl) pn_J0 ?_
  intro X C hT hRm hl hnm hQ
  obtain ⟨hRf, hRl, hRc, hRs⟩ := hRm
  refine g_wf (fun hwf => ?_)
  have hKT := ((hT.2.1 i hi).1 0 (by decide)).2.2.2
  have hlr := kBy_r i
  refine g_aload_n C dJ0_length_8abf5_0 rfl ?_
  refine g_kval C hT hi fl_RJ0_9 dJ0_length_8abf5_1 ?_
  refine g_tlen C hKT dJ0_length_8abf5_4 ?_
  refine g_aload_n C dJ0_length_8abf5_5 rfl ?_
  refine t_callV C hT (c_J0_coder_7d493 _ hi) (RcV.k hT hi) rfl ml_RJ0_335 im_yJ0_coder_7d493 se_RJ0_yJ0_coder_7d493 in_RJ0 co_yJ0_coder_7d493 hd_J0_coder_7d493 rfl ⟨by omega, by omega⟩ rfl (Nat.le_of_ble_eq_true rfl) ⟨by omega, by omega⟩ dJ0_length_8abf5_6 (fun v6 w6 hp6 => ?_)
  obtain ⟨rfl, hw6⟩ := hp6
  subst w6
  refine g_ishr (z := ((kBy i).length : Nat)) C dJ0_length_8abf5_9 (i_shr0 (by show -2147483648 ≤ (((kBy i).length : Nat) : Int) ∧ (((kBy i).length : Nat) : Int) < 2147483648; omega)) ?_
  exact g_ireturn C hQ dJ0_length_8abf5_10 (Nat.le_refl _) (Nat.le_refl _) ⟨rfl, rfl⟩
set_option maxHeartbeats 4000000 in
set_option maxRecDepth 100000 in
theorem c_J0_getBytes_840e7 (l : Launch) {K : KC} {E : GE} {w : Wd} {i : Nat} (hi : i < 4) {b n m : Nat} {f : Nat → Int} (hb : w.2 b = some (true, eB m f)) (hF : bF f) (hm : n + (kBy i).length ≤ m ∧ m ≤ 1000000) : St K E l yJ0_getBytes_840e7 cJ0_getBytes_840e7 4 none 1 (0) (0) [.ref (K.1 i), .ref b, iI (n : Int), iI 0] w (fun r w' => r = none ∧ ∃ g, w' = wset w b (true, eB m g) ∧ bF g) := by
  refine st_intro [some (.ref (K.1 i)), some (.ref b), some (iI (n : Int)), some (iI 0)] rfl (Nat.le_of_ble_eq_true rfl) pn_J0 ?_
  intro X C hT hRm hl hnm hQ
  obtain ⟨hRf, hRl, hRc, hRs⟩ := hRm
  refine g_wf (fun hwf => ?_)
  have hKT := ((hT.2.1 i hi).1 0 (by decide)).2.2.2
  have hlr := kBy_r i
  refine g_aload_n C dJ0_getBytes_840e7_0 rfl ?_
  refine t_callV C hT (c_J0_coder_7d493 _ hi) (RcV.k hT hi) rfl ml_RJ0_335 im_yJ0_coder_7d493 se_RJ0_yJ0_coder_7d493 in_RJ0 co_yJ0_coder_7d493 hd_J0_coder_7d493 rfl ⟨by omega, by omega⟩ rfl (Nat.le_of_ble_eq_true rfl) ⟨by omega, by omega⟩ dJ0_getBytes_840e7_1 (fun v1 w1 hp1 => ?_)
  obtain ⟨rfl, hw1⟩ := hp1
  subst w1
  refine g_iload_n C dJ0_getBytes_840e7_4 rfl ?_
  refine g_icmp_ne (tgt := 28) C dJ0_getBytes_840e7_5 (by decide) (by omega) (by omega) (fun h5 => ?_) (fun h5 => ?_)
  · omega
  · refine g_aload_n C dJ0_getBytes_840e7_8 rfl ?_
    refine g_kval C hT hi fl_RJ0_9 dJ0_getBytes_840e7_9 ?_
    refine g_iconst C dJ0_getBytes_840e7_12 ?_
    refine g_aload_n C dJ0_getBytes_840e7_13 rfl ?_
    refine g_iload_n C dJ0_getBytes_840e7_14 rfl ?_
    refine g_iload_n C dJ0_getBytes_840e7_15 rfl ?_
    refine g_ishl (z := (n : Int)) C dJ0_getBytes_840e7_16 (i_shl0 _) ?_
    refine g_aload_n C dJ0_getBytes_840e7_17 rfl ?_
    refine g_kval C hT hi fl_RJ0_9 dJ0_getBytes_840e7_18 ?_
    refine g_tlen C hKT dJ0_getBytes_840e7_21 ?_
    refine g_acopyT C (f := fun j => (kBy i).getD j 0) ⟨hKT, hb, ⟨by omega, by omega, by omega, by show (0 : Int) + (((kBy i).length : Nat) : Int) ≤ (((kBy i).length : Nat) : Int); omega, by show (n : Int) + (((kBy i).length : Nat) : Int) ≤ (m : Int); omega, by show (kBy i).length < 2147483648; omega, by omega⟩, fun j => kBy_b i j⟩ ml_RJ0_212 (by omega) (by omega) (Nat.le_of_ble_eq_true rfl) dJ0_getBytes_840e7_22 ?_
    refine g_goto (tgt := 43) C dJ0_getBytes_840e7_25 (by decide) ?_
    exact g_return C hQ dJ0_getBytes_840e7_43 (Nat.le_refl _) (Nat.le_refl _) ⟨rfl, _, rfl, bF.cpy (fun j => kBy_b i j) hF _ _ _⟩
set_option maxHeartbeats 4000000 in
set_option maxRecDepth 100000 in
theorem c_J5_inflateIfNeededFor_a7421 (l : Launch) {K : KC} {E : GE} {w : Wd} {a v n m : Nat} (hS : SBw w a v n m) {i : Nat} (hi : i < 4) : St K E l yJ5_inflateIfNeededFor_a7421 cJ5_inflateIfNeededFor_a7421 2 none 1 (0) (0) [.ref a, .ref (K.1 i)] w (fun r w' => r = none ∧ w' = w) := by
  refine st_intro [some (.ref a), some (.ref (K.1 i))] rfl (Nat.le_of_ble_eq_true rfl) pn_J5 ?_
  intro X C hT hRm hl hnm hQ
  obtain ⟨hRf, hRl, hRc, hRs⟩ := hRm
  refine g_wf (fun hwf => ?_)
  obtain ⟨mb, f, hO, hV, hF, hav, hnm'⟩ := hS
  refine g_getc C hT fl_RJ5_18 dJ5_inflateIfNeededFor_a7421_0 ?_
  refine g_if_eq (tgt := 21) C dJ5_inflateIfNeededFor_a7421_3 (by decide) (by omega) (fun h3 => ?_) (fun h3 => ?_)
  · omega
  · refine g_aload_n C dJ5_inflateIfNeededFor_a7421_6 rfl ?_
    refine g_get (ci := 1) C rfl inTJ4 1 (by decide) fl_RJ5_22 rfl hO rfl dJ5_inflateIfNeededFor_a7421_7 ?_
    refine g_aload_n C dJ5_inflateIfNeededFor_a7421_10 rfl ?_
    refine t_callV C hT (c_J0_coder_7d493 _ hi) (RcV.k hT hi) rfl ml_RJ5_40 im_yJ0_coder_7d493 se_RJ0_yJ0_coder_7d493 in_RJ0 co_yJ0_coder_7d493 hd_J0_coder_7d493 rfl ⟨by omega, by omega⟩ rfl (Nat.le_of_ble_eq_true rfl) ⟨by omega, by omega⟩ dJ5_inflateIfNeededFor_a7421_11 (fun v11 w11 hp11 => ?_)
    obtain ⟨rfl, hw11⟩ := hp11
    subst w11
    refine g_icmp_eq (tgt := 21) C dJ5_inflateIfNeededFor_a7421_14 (by decide) (by omega) (by omega) (fun h14 => ?_) (fun h14 => ?_)
    · exact g_return C hQ dJ5_inflateIfNeededFor_a7421_21 (Nat.le_refl _) (Nat.le_refl _) ⟨rfl, rfl⟩
    · omega
set_option maxHeartbeats 4000000 in
set_option maxRecDepth 100000 in
theorem c_J5_putStringAt_47b60 (l : Launch) {K : KC} {E : GE} {w : Wd} {a v n m : Nat} (hS : SBw w a v n m) {i : Nat} (hi : i < 4) {p : Nat} (hp : p + (kBy i).length ≤ m ∧ m ≤ 1000000) : St K E l yJ5_putStringAt_47b60 cJ5_putStringAt_47b60 3 none 2 (0) (0) [.ref a, iI (p : Int), .ref (K.1 i)] w (fun r w' => r = none ∧ SBw w' a v n m ∧ FrY w w' a v) := by
  refine st_intro [some (.ref a), some (iI (p : Int)), some (.ref (K.1 i))] rfl (Nat.le_of_ble_eq_true rfl) pn_J5 ?_
  intro X C hT hRm hl hnm hQ
  obtain ⟨hRf, hRl, hRc, hRs⟩ := hRm
  refine g_wf (fun hwf => ?_)
  have hS0 := hS
  obtain ⟨mb, f, hO, hV, hF, hav, hnm'⟩ := hS
  refine g_aload_n C dJ5_putStringAt_47b60_0 rfl ?_
  refine g_aload_n C dJ5_putStringAt_47b60_1 rfl ?_
  refine t_callU (owner := RJ5) C hT (c_J5_inflateIfNeededFor_a7421 _ hS0 hi) (RcV.ob (ci := 1) C rfl hO) rfl ml_RJ5_397 gw_sameMethod_java_lang_AbstractStringBuilder_java_lang_AbstractStringBui_1919 se_RJ4__yJ5_inflateIfNeededFor_a7421 im_yJ5_inflateIfNeededFor_a7421 in_RJ5 co_yJ5_inflateIfNeededFor_a7421 hd_J5_inflateIfNeededFor_a7421 rfl ⟨by omega, by omega⟩ rfl (Nat.le_of_ble_eq_true rfl) ⟨by omega, by omega⟩ dJ5_putStringAt_47b60_2 (fun v2 w2 hp2 => ?_)
  obtain ⟨rfl, hw2⟩ := hp2
  subst w2
  refine g_aload_n C dJ5_putStringAt_47b60_5 rfl ?_
  refine g_aload_n C dJ5_putStringAt_47b60_6 rfl ?_
  refine g_get (ci := 1) C rfl inTJ4 0 (by decide) fl_RJ5_15 rfl hO rfl dJ5_putStringAt_47b60_7 ?_
  refine g_iload_n C dJ5_putStringAt_47b60_10 rfl ?_
  refine g_aload_n C dJ5_putStringAt_47b60_11 rfl ?_
  refine g_get (ci := 1) C rfl inTJ4 1 (by decide) fl_RJ5_22 rfl hO rfl dJ5_putStringAt_47b60_12 ?_
  refine t_callV C hT (c_J0_getBytes_840e7 _ hi hV hF hp) (RcV.k hT hi) rfl ml_RJ5_399 im_yJ0_getBytes_840e7 se_RJ0_yJ0_getBytes_840e7 in_RJ0 co_yJ0_getBytes_840e7 hd_J0_getBytes_840e7 rfl ⟨by omega, by omega⟩ rfl (Nat.le_of_ble_eq_true rfl) ⟨by omega, by omega⟩ dJ5_putStringAt_47b60_15 (fun v15 w15 hp15 => ?_)
  obtain ⟨rfl, g15, rfl, hg15⟩ := hp15
  exact g_return C hQ dJ5_putStringAt_47b60_18 (Nat.le_refl _) (Nat.le_refl _) ⟨rfl, ⟨mb, g15, by rw [wset_n hav]; exact hO, wset_s, hg15, hav, hnm'⟩, (FrY.rf _ _ _).set (by omega) _⟩
set_option maxHeartbeats 4000000 in
set_option maxRecDepth 100000 in
theorem c_J5_append_cf1ce (l : Launch) {K : KC} {E : GE} {w : Wd} {a v n m : Nat} (hS : SBw w a v n m) {i : Nat} (hi : i < 4) (hn : n ≤ 100000) (hm : m ≤ 100000) : St K E l yJ5_append_cf1ce cJ5_append_cf1ce 3 (some (.object "java/lang/AbstractStringBuilder")) 4 (gC (n + (kBy i).length) m) (gS (n + (kBy i).length) m) [.ref a, .ref (K.1 i)] w (fun r w' => r = some (.ref a) ∧ ∃ (v' : Nat), SBw w' a v' (n + (kBy i).length) (capG (n + (kBy i).length) m) ∧ (v' = v ∨ w.1 ≤ v') ∧ FrY w w' a v) := by
  refine st_intro [some (.ref a), some (.ref (K.1 i)), none] rfl (Nat.le_of_ble_eq_true rfl) pn_J5 ?_
  intro X C hT hRm hl hnm hQ
  obtain ⟨hRf, hRl, hRc, hRs⟩ := hRm
  refine g_wf (fun hwf => ?_)
  have hS0 := hS
  obtain ⟨mb, f, hO, hV, hF, hav, hnm'⟩ := hS
  have hlr := kBy_r i
  refine g_aload_n C dJ5_append_cf1ce_0 rfl ?_
  refine g_ifnonnull (tgt := 9) C dJ5_append_cf1ce_1 (by decide) ?_
  refine g_aload_n C dJ5_append_cf1ce_9 rfl ?_
  refine t_callV C hT (c_J0_length_8abf5 _ hi) (RcV.k hT hi) rfl ml_RJ5_32 im_yJ0_length_8abf5 se_RJ0_yJ0_length_8abf5 in_RJ0 co_yJ0_length_8abf5 hd_J0_length_8abf5 rfl ⟨by omega, by omega⟩ rfl (Nat.le_of_ble_eq_true rfl) ⟨by omega, by omega⟩ dJ5_append_cf1ce_10 (fun v10 w10 hp10 => ?_)
  obtain ⟨rfl, hw10⟩ := hp10
  subst w10
  refine g_istore_n C dJ5_append_cf1ce_13 (by decide) rfl ?_
  refine g_aload_n C dJ5_append_cf1ce_14 rfl ?_
  refine g_aload_n C dJ5_append_cf1ce_15 rfl ?_
  refine g_get (ci := 1) C rfl inTJ4 3 (by decide) fl_RJ5_79 rfl hO rfl dJ5_append_cf1ce_16 ?_
  refine g_iload_n C dJ5_append_cf1ce_19 rfl ?_
  refine g_iadd C dJ5_append_cf1ce_20 ?_
  rw [show (n : Int) + (((kBy i).length : Nat) : Int) = ((n + (kBy i).length : Nat) : Int) by omega]
  refine t_callU (owner := RJ5) C hT (c_J5_ensureCapacityInternal_d00df _ hS0 (q := n + (kBy i).length) (by omega) hm) (RcV.ob (ci := 1) C rfl hO) rfl ml_RJ5_100 gw_sameMethod_java_lang_AbstractStringBuilder_java_lang_AbstractStringBui_1916 se_RJ4__yJ5_ensureCapacityInternal_d00df im_yJ5_ensureCapacityInternal_d00df in_RJ5 co_yJ5_ensureCapacityInternal_d00df hd_J5_ensureCapacityInternal_d00df rfl ⟨by omega, by omega⟩ rfl (Nat.le_of_ble_eq_true rfl) ⟨by omega, by omega⟩ dJ5_append_cf1ce_21 (fun v21 w21 hp21 => ?_)
  obtain ⟨rfl, v1, hS1, hv1, fr1⟩ := hp21
  obtain ⟨mb1, f1, hO1, hV1, hF1, hav1, hnm1⟩ := id hS1
  have hge := capG_ge (n + (kBy i).length) m
  have hcg : capG (n + (kBy i).length) m ≤ 300000 := by unfold capG; split <;> (try split) <;> omega
  refine g_aload_n C dJ5_append_cf1ce_24 rfl ?_
  refine g_aload_n C dJ5_append_cf1ce_25 rfl ?_
  refine g_get (ci := 1) C rfl inTJ4 3 (by decide) fl_RJ5_79 rfl hO1 rfl dJ5_append_cf1ce_26 ?_
  refine g_aload_n C dJ5_append_cf1ce_29 rfl ?_
  refine t_callU (owner := RJ5) C hT (c_J5_putStringAt_47b60 _ hS1 hi (p := n) (by omega)) (RcV.ob (ci := 1) C rfl hO1) rfl ml_RJ5_208 gw_sameMethod_java_lang_AbstractStringBuilder_java_lang_AbstractStringBui_1918 se_RJ4__yJ5_putStringAt_47b60 im_yJ5_putStringAt_47b60 in_RJ5 co_yJ5_putStringAt_47b60 hd_J5_putStringAt_47b60 rfl ⟨by omega, by omega⟩ rfl (Nat.le_of_ble_eq_true rfl) ⟨by omega, by omega⟩ dJ5_append_cf1ce_30 (fun v30 w30 hp30 => ?_)
  obtain ⟨rfl, hS2, fr2⟩ := hp30
  obtain ⟨mb2, f2, hO2, hV2, hF2, hav2, hnm2⟩ := id hS2
  refine g_aload_n C dJ5_append_cf1ce_33 rfl ?_
  refine g_dup C dJ5_append_cf1ce_34 rfl ?_
  refine g_get (ci := 1) C rfl inTJ4 3 (by decide) fl_RJ5_79 rfl hO2 rfl dJ5_append_cf1ce_35 ?_
  refine g_iload_n C dJ5_append_cf1ce_38 rfl ?_
  refine g_iadd C dJ5_append_cf1ce_39 ?_
  rw [show (n : Int) + (((kBy i).length : Nat) : Int) = ((n + (kBy i).length : Nat) : Int) by omega]
  refine g_put (ci := 1) C rfl inTJ4 tyJ4 tyJ4_ok nmJ4 3 (by decide) fl_RJ5_79 rfl rfl hO2 (Nat.le_of_ble_eq_true rfl) rfl rfl dJ5_append_cf1ce_40 ?_
  refine g_aload_n C dJ5_append_cf1ce_43 rfl ?_
  exact g_areturn C (Or.inl ⟨_, rfl⟩) hQ (Or.inr ⟨_, rfl⟩) dJ5_append_cf1ce_44 (by omega) (by omega) ⟨rfl, v1, ⟨mb2, f2, wset_s, by rw [wset_n (Ne.symm hav2)]; exact hV2, hF2, hav2, by omega⟩, hv1, (fr1.tr fr2 hv1).set (Or.inl rfl) _⟩
set_option maxHeartbeats 4000000 in
set_option maxRecDepth 100000 in
theorem c_J4_append_15ec4 (l : Launch) {K : KC} {E : GE} {w : Wd} {a v n m : Nat} (hS : SBw w a v n m) {i : Nat} (hi : i < 4) (hn : n ≤ 100000) (hm : m ≤ 100000) : St K E l yJ4_append_15ec4 cJ4_append_15ec4 2 (some (.object "java/lang/StringBuilder")) 5 (gC (n + (kBy i).length) m) (gS (n + (kBy i).length) m) [.ref a, .ref (K.1 i)] w (fun r w' => r = some (.ref a) ∧ ∃ (v' : Nat), SBw w' a v' (n + (kBy i).length) (capG (n + (kBy i).length) m) ∧ (v' = v ∨ w.1 ≤ v') ∧ FrY w w' a v) := by
  refine st_intro [some (.ref a), some (.ref (K.1 i))] rfl (Nat.le_of_ble_eq_true rfl) pn_J4 ?_
  intro X C hT hRm hl hnm hQ
  obtain ⟨hRf, hRl, hRc, hRs⟩ := hRm
  refine g_wf (fun hwf => ?_)
  have hS0 := hS
  obtain ⟨mb, f, hO, hV, hF, hav, hnm'⟩ := hS
  refine g_aload_n C dJ4_append_15ec4_0 rfl ?_
  refine g_aload_n C dJ4_append_15ec4_1 rfl ?_
  refine t_callP C hT (c_J5_append_cf1ce _ hS0 hi hn hm) (ci := 1) rfl hO ml_RJ4_29 gw_sameMethod_java_lang_AbstractStringBuilder_java_lang_AbstractStringBui_1914 gw_superclass_RJ4_RJ5 im_yJ5_append_cf1ce in_RJ5 co_yJ5_append_cf1ce ⟨by decide, hd_J5_append_cf1ce.2.2⟩ rfl ⟨by omega, by omega⟩ rfl (Nat.le_of_ble_eq_true rfl) ⟨by omega, by omega⟩ dJ4_append_15ec4_2 (fun v2 w2 hp2 => ?_)
  obtain ⟨rfl, hp2⟩ := hp2
  refine g_pop C dJ4_append_15ec4_5 rfl ?_
  refine g_aload_n C dJ4_append_15ec4_6 rfl ?_
  exact g_areturn C (Or.inl ⟨_, rfl⟩) hQ (Or.inr ⟨_, rfl⟩) dJ4_append_15ec4_7 (by omega) (by omega) ⟨rfl, hp2⟩
set_option maxHeartbeats 4000000 in
set_option maxRecDepth 100000 in
theorem c_J3_checkIndexN (l : Launch) {K : KC} {E : GE} {w : Wd} {i n : Int} (hi : 0 ≤ i ∧ i < n ∧ n < 2147483648) : St K E l yJ3_checkIndex_8e157 cJ3_checkIndex_8e157 3 (some .int) 0 (0) (0) [iI i, iI n, .null] w (fun r w' => r = some (iI i) ∧ w' = w) := by
  refine st_intro [some (iI i), some (iI n), some (.null)] rfl (Nat.le_of_ble_eq_true rfl) pn_J3 ?_
  intro X C hT hRm hl hnm hQ
  obtain ⟨hRf, hRl, hRc, hRs⟩ := hRm
  refine g_wf (fun hwf => ?_)
  refine g_iload_n C dJ3_checkIndex_8e157_0 rfl ?_
  refine g_if_lt (tgt := 9) C dJ3_checkIndex_8e157_1 (by decide) (by omega) (fun h1 => ?_) (fun h1 => ?_)
  · omega
  · refine g_iload_n C dJ3_checkIndex_8e157_4 rfl ?_
    refine g_iload_n C dJ3_checkIndex_8e157_5 rfl ?_
    refine g_icmp_lt (tgt := 16) C dJ3_checkIndex_8e157_6 (by decide) (by omega) (by omega) (fun h6 => ?_) (fun h6 => ?_)
    · refine g_iload_n C dJ3_checkIndex_8e157_16 rfl ?_
      exact g_ireturn C hQ dJ3_checkIndex_8e157_17 (Nat.le_refl _) (Nat.le_refl _) ⟨rfl, rfl⟩
    · omega
set_option maxHeartbeats 4000000 in
set_option maxRecDepth 100000 in
theorem c_J3_checkIndexR (l : Launch) {K : KC} {E : GE} {w : Wd} {t : Nat} {i n : Int} (hi : 0 ≤ i ∧ i < n ∧ n < 2147483648) : St K E l yJ3_checkIndex_8e157 cJ3_checkIndex_8e157 3 (some .int) 0 (0) (0) [iI i, iI n, .ref t] w (fun r w' => r = some (iI i) ∧ w' = w) := by
  refine st_intro [some (iI i), some (iI n), some (.ref t)] rfl (Nat.le_of_ble_eq_true rfl) pn_J3 ?_
  intro X C hT hRm hl hnm hQ
  obtain ⟨hRf, hRl, hRc, hRs⟩ := hRm
  refine g_wf (fun hwf => ?_)
  refine g_iload_n C dJ3_checkIndex_8e157_0 rfl ?_
  refine g_if_lt (tgt := 9) C dJ3_checkIndex_8e157_1 (by decide) (by omega) (fun h1 => ?_) (fun h1 => ?_)
  · omega
  · refine g_iload_n C dJ3_checkIndex_8e157_4 rfl ?_
    refine g_iload_n C dJ3_checkIndex_8e157_5 rfl ?_
    refine g_icmp_lt (tgt := 16) C dJ3_checkIndex_8e157_6 (by decide) (by omega) (by omega) (fun h6 => ?_) (fun h6 => ?_)
    · refine g_iload_n C dJ3_checkIndex_8e157_16 rfl ?_
      exact g_ireturn C hQ dJ3_checkIndex_8e157_17 (Nat.le_refl _) (Nat.le_refl _) ⟨rfl, rfl⟩
    · omega
set_option maxHeartbeats 4000000 in
set_option maxRecDepth 100000 in
theorem c_J0_checkIndex_df160 (l : Launch) {K : KC} {E : GE} {w : Wd} {i n : Int} (hi : 0 ≤ i ∧ i < n ∧ n < 2147483648) : St K E l yJ0_checkIndex_df160 cJ0_checkIndex_df160 2 none 1 (0) (0) [iI i, iI n] w (fun r w' => r = none ∧ w' = w) := by
  refine st_intro [some (iI i), some (iI n)] rfl (Nat.le_of_ble_eq_true rfl) pn_J0 ?_
  intro X C hT hRm hl hnm hQ
  obtain ⟨hRf, hRl, hRc, hRs⟩ := hRm
  refine g_wf (fun hwf => ?_)
  refine g_iload_n C dJ0_checkIndex_df160_0 rfl ?_
  refine g_iload_n C dJ0_checkIndex_df160_1 rfl ?_
  rcases hT.2.2.2.1 with hZ | ⟨t, hZ⟩
  · refine g_gets C hZ fl_RJ0_1053 dJ0_checkIndex_df160_2 ?_
    refine t_callS C hT (c_J3_checkIndexN _ hi) ml_RJ0_1059 sm_yJ3_checkIndex_8e157 in_RJ3 co_yJ3_checkIndex_8e157 hd_J3_checkIndex_8e157 rfl ⟨by omega, by omega⟩ rfl (Nat.le_of_ble_eq_true rfl) ⟨by omega, by omega⟩ dJ0_checkIndex_df160_5 (fun v5 w5 hp5 => ?_)
    obtain ⟨rfl, hw5⟩ := hp5
    subst w5
    refine g_pop C dJ0_checkIndex_df160_8 rfl ?_
    exact g_return C hQ dJ0_checkIndex_df160_9 (Nat.le_refl _) (Nat.le_refl _) ⟨rfl, rfl⟩
  refine g_gets C hZ fl_RJ0_1053 dJ0_checkIndex_df160_2 ?_
  refine t_callS C hT (c_J3_checkIndexR _ hi) ml_RJ0_1059 sm_yJ3_checkIndex_8e157 in_RJ3 co_yJ3_checkIndex_8e157 hd_J3_checkIndex_8e157 rfl ⟨by omega, by omega⟩ rfl (Nat.le_of_ble_eq_true rfl) ⟨by omega, by omega⟩ dJ0_checkIndex_df160_5 (fun v5 w5 hp5 => ?_)
  obtain ⟨rfl, hw5⟩ := hp5
  subst w5
  refine g_pop C dJ0_checkIndex_df160_8 rfl ?_
  exact g_return C hQ dJ0_checkIndex_df160_9 (Nat.le_refl _) (Nat.le_refl _) ⟨rfl, rfl⟩
theorem nar_ch {y : Int} (h0 : 0 ≤ y) (h1 : y ≤ 65535) : narrow .char (iI y) = iI y := congrArg Value.int (i2c_n h0 h1)
set_option maxHeartbeats 4000000 in
set_option maxRecDepth 100000 in
theorem c_J1_charAt_3b067 (l : Launch) {K : KC} {E : GE} {w : Wd} {i : Nat} (hi : i < 4) {p : Nat} (hp : p < (kBy i).length) : St K E l yJ1_charAt_3b067 cJ1_charAt_3b067 2 (some .char) 2 (0) (0) [.ref (K.2.1 i), iI (p : Int)] w (fun r w' => (∃ y : Int, r = some (iI y) ∧ 0 ≤ y ∧ y ≤ 255) ∧ w' = w) := by
  refine st_intro [some (.ref (K.2.1 i)), some (iI (p : Int))] rfl (Nat.le_of_ble_eq_true rfl) pn_J1 ?_
  intro X C hT hRm hl hnm hQ
  obtain ⟨hRf, hRl, hRc, hRs⟩ := hRm
  refine g_wf (fun hwf => ?_)
  have hKT := ((hT.2.1 i hi).1 0 (by decide)).2.2.2
  have hlr := kBy_r i
  refine g_iload_n C dJ1_charAt_3b067_0 rfl ?_
  refine g_aload_n C dJ1_charAt_3b067_1 rfl ?_
  refine g_tlen C hKT dJ1_charAt_3b067_2 ?_
  refine t_callS C hT (c_J0_checkIndex_df160 _ (i := (p : Int)) (n := (((kBy i).length : Nat) : Int)) (by omega)) ml_RJ1_9 sm_yJ0_checkIndex_df160 in_RJ0 co_yJ0_checkIndex_df160 hd_J0_checkIndex_df160 rfl ⟨by omega, by omega⟩ rfl (Nat.le_of_ble_eq_true rfl) ⟨by omega, by omega⟩ dJ1_charAt_3b067_3 (fun v3 w3 hp3 => ?_)
  obtain ⟨rfl, hw3⟩ := hp3
  subst w3
  refine g_aload_n C dJ1_charAt_3b067_6 rfl ?_
  refine g_iload_n C dJ1_charAt_3b067_7 rfl ?_
  refine g_tbal C (f := fun j => (kBy i).getD j 0) hKT (by show 0 ≤ (p : Int) ∧ (p : Int) < (((kBy i).length : Nat) : Int) ∧ (p : Int) < 2147483648; omega) dJ1_charAt_3b067_8 ?_
  refine g_sipush C dJ1_charAt_3b067_9 (by decide) ?_
  obtain ⟨y8, hy8, y80, y81⟩ := b255 (Int32.ofInt ((kBy i).getD ((p : Int)).toNat 0).toInt)
  refine g_iand (z := y8) C dJ1_charAt_3b067_12 hy8 ?_
  refine g_i2c (z := y8) C dJ1_charAt_3b067_13 (i2c_n y80 (by omega)) ?_
  exact g_zreturn C hQ dJ1_charAt_3b067_14 (nar_ch y80 (by omega)) (Nat.le_refl _) (Nat.le_refl _) ⟨⟨y8, rfl, y80, y81⟩, rfl⟩
set_option maxHeartbeats 4000000 in
set_option maxRecDepth 100000 in
theorem c_J0_charAt_5068e (l : Launch) {K : KC} {E : GE} {w : Wd} {i : Nat} (hi : i < 4) {p : Nat} (hp : p < (kBy i).length) : St K E l yJ0_charAt_5068e cJ0_charAt_5068e 2 (some .char) 3 (0) (0) [.ref (K.1 i), iI (p : Int)] w (fun r w' => (∃ y : Int, r = some (iI y) ∧ 0 ≤ y ∧ y ≤ 255) ∧ w' = w) := by
  refine st_intro [some (.ref (K.1 i)), some (iI (p : Int))] rfl (Nat.le_of_ble_eq_true rfl) pn_J0 ?_
  intro X C hT hRm hl hnm hQ
  obtain ⟨hRf, hRl, hRc, hRs⟩ := hRm
  refine g_wf (fun hwf => ?_)
  refine g_aload_n C dJ0_charAt_5068e_0 rfl ?_
  refine t_callV C hT (c_J0_isLatin1_aae02 _ hi) (RcV.k hT hi) rfl ml_RJ0_492 im_yJ0_isLatin1_aae02 se_RJ0_yJ0_isLatin1_aae02 in_RJ0 co_yJ0_isLatin1_aae02 hd_J0_isLatin1_aae02 rfl ⟨by omega, by omega⟩ rfl (Nat.le_of_ble_eq_true rfl) ⟨by omega, by omega⟩ dJ0_charAt_5068e_1 (fun v1 w1 hp1 => ?_)
  obtain ⟨rfl, hw1⟩ := hp1
  subst w1
  refine g_if_eq (tgt := 16) C dJ0_charAt_5068e_4 (by decide) (by omega) (fun h4 => ?_) (fun h4 => ?_)
  · omega
  · refine g_aload_n C dJ0_charAt_5068e_7 rfl ?_
    refine g_kval C hT hi fl_RJ0_9 dJ0_charAt_5068e_8 ?_
    refine g_iload_n C dJ0_charAt_5068e_11 rfl ?_
    refine t_callS C hT (c_J1_charAt_3b067 _ hi hp) ml_RJ0_495 sm_yJ1_charAt_3b067 in_RJ1 co_yJ1_charAt_3b067 hd_J1_charAt_3b067 rfl ⟨by omega, by omega⟩ rfl (Nat.le_of_ble_eq_true rfl) ⟨by omega, by omega⟩ dJ0_charAt_5068e_12 (fun v12 w12 hp12 => ?_)
    obtain ⟨⟨y, rfl, y0, y1⟩, hw12⟩ := hp12
    subst w12
    exact g_zreturn C hQ dJ0_charAt_5068e_15 (nar_ch y0 (by omega)) (Nat.le_refl _) (Nat.le_refl _) ⟨⟨y, rfl, y0, y1⟩, rfl⟩
set_option maxHeartbeats 4000000 in
set_option maxRecDepth 100000 in
theorem c_J5_init_d00df (l : Launch) {K : KC} {E : GE} {w : Wd} {a : Nat} (ha : w.2 a = some (true, eO 1 [.null, iI 0, iI 0, iI 0])) : St K E l yJ5_init_d00df cJ5_init_d00df 2 none 1 (1) (16) [.ref a, iI 16] w (fun r w' => r = none ∧ ∃ v, SBw w' a v 0 16 ∧ w.1 ≤ v ∧ FrY w w' a a) := by
  refine st_intro [some (.ref a), some (iI 16)] rfl (Nat.le_of_ble_eq_true rfl) pn_J5 ?_
  intro X C hT hRm hl hnm hQ
  obtain ⟨hRf, hRl, hRc, hRs⟩ := hRm
  refine g_wf (fun hwf => ?_)
  refine g_aload_n C dJ5_init_d00df_0 rfl ?_
  refine g_objInit C ml_RJ5_3 (by omega) (by omega) (Nat.le_of_ble_eq_true rfl) dJ5_init_d00df_1 ?_
  refine g_getc C hT fl_RJ5_18 dJ5_init_d00df_4 ?_
  refine g_if_eq (tgt := 25) C dJ5_init_d00df_7 (by decide) (by omega) (fun h7 => ?_) (fun h7 => ?_)
  · omega
  · refine g_aload_n C dJ5_init_d00df_10 rfl ?_
    refine g_iload_n C dJ5_init_d00df_11 rfl ?_
    refine g_newB C gw_arrayClass_byte (N := 16) rfl (by omega) (by omega) dJ5_init_d00df_12 ?_
    refine g_put (ci := 1) C rfl inTJ4 tyJ4 tyJ4_ok nmJ4 0 (by decide) fl_RJ5_15 rfl rfl (by rw [wpush_n (Nat.ne_of_lt (hwf a _ ha))]; exact ha) (Nat.le_of_ble_eq_true rfl) rfl rfl dJ5_init_d00df_14 ?_
    refine g_aload_n C dJ5_init_d00df_17 rfl ?_
    refine g_iconst C dJ5_init_d00df_18 ?_
    refine g_put (ci := 1) C rfl inTJ4 tyJ4 tyJ4_ok nmJ4 1 (by decide) fl_RJ5_22 rfl rfl wset_s (Nat.le_of_ble_eq_true rfl) rfl rfl dJ5_init_d00df_19 ?_
    refine g_goto (tgt := 38) C dJ5_init_d00df_22 (by decide) ?_
    exact g_return C hQ dJ5_init_d00df_38 (by omega) (by omega) ⟨rfl, w.1, ⟨0, _, wset_s, by rw [wset_n (Nat.ne_of_gt (hwf a _ ha)), wset_n (Nat.ne_of_gt (hwf a _ ha))]; exact wpush_s, bF.zero, Nat.ne_of_lt (hwf a _ ha), by omega⟩, Nat.le_refl _, (((FrY.rf w a a).push _).set (Or.inl rfl) _).set (Or.inl rfl) _⟩
set_option maxHeartbeats 4000000 in
set_option maxRecDepth 100000 in
theorem c_J4_init_da8c8 (l : Launch) {K : KC} {E : GE} {w : Wd} {a : Nat} (ha : w.2 a = some (true, eO 1 [.null, iI 0, iI 0, iI 0])) : St K E l yJ4_init_da8c8 cJ4_init_da8c8 1 none 2 (1) (16) [.ref a] w (fun r w' => r = none ∧ ∃ v, SBw w' a v 0 16 ∧ w.1 ≤ v ∧ FrY w w' a a) := by
  refine st_intro [some (.ref a)] rfl (Nat.le_of_ble_eq_true rfl) pn_J4 ?_
  intro X C hT hRm hl hnm hQ
  obtain ⟨hRf, hRl, hRc, hRs⟩ := hRm
  refine g_wf (fun hwf => ?_)
  refine g_aload_n C dJ4_init_da8c8_0 rfl ?_
  refine g_bipush C dJ4_init_da8c8_1 (by decide) ?_
  refine t_callI C hT (c_J5_init_d00df _ ha) ml_RJ4_1 im_yJ5_init_d00df in_RJ5 co_yJ5_init_d00df rfl hd_J5_init_d00df rfl ⟨by omega, by omega⟩ rfl (Nat.le_of_ble_eq_true rfl) ⟨by omega, by omega⟩ dJ4_init_da8c8_3 (fun v3 w3 hp3 => ?_)
  obtain ⟨rfl, hp3⟩ := id hp3
  exact g_return C hQ dJ4_init_da8c8_6 (by omega) (by omega) hp3
set_option maxHeartbeats 4000000 in
set_option maxRecDepth 100000 in
theorem c_J5_getValue_6d5f1 (l : Launch) {K : KC} {E : GE} {w : Wd} {a v n m : Nat} (hS : SBw w a v n m) : St K E l yJ5_getValue_6d5f1 cJ5_getValue_6d5f1 1 (some (.array .byte)) 0 (0) (0) [.ref a] w (fun r w' => r = some (.ref v) ∧ w' = w) := by
  refine st_intro [some (.ref a)] rfl (Nat.le_of_ble_eq_true rfl) pn_J5 ?_
  intro X C hT hRm hl hnm hQ
  obtain ⟨hRf, hRl, hRc, hRs⟩ := hRm
  refine g_wf (fun hwf => ?_)
  obtain ⟨mb, f, hO, hV, hF, hav, hnm'⟩ := hS
  refine g_aload_n C dJ5_getValue_6d5f1_0 rfl ?_
  refine g_get (ci := 1) C rfl inTJ4 0 (by decide) fl_RJ5_15 rfl hO rfl dJ5_getValue_6d5f1_1 ?_
  exact g_areturn C (Or.inr ⟨_, rfl⟩) hQ (Or.inr ⟨_, rfl⟩) dJ5_getValue_6d5f1_4 (by omega) (by omega) ⟨rfl, rfl⟩
set_option maxHeartbeats 4000000 in
set_option maxRecDepth 100000 in
theorem c_J5_length_8abf5 (l : Launch) {K : KC} {E : GE} {w : Wd} {a v n m : Nat} (hS : SBw w a v n m) : St K E l yJ5_length_8abf5 cJ5_length_8abf5 1 (some .int) 0 (0) (0) [.ref a] w (fun r w' => r = some (iI (n : Int)) ∧ w' = w) := by
  refine st_intro [some (.ref a)] rfl (Nat.le_of_ble_eq_true rfl) pn_J5 ?_
  intro X C hT hRm hl hnm hQ
  obtain ⟨hRf, hRl, hRc, hRs⟩ := hRm
  refine g_wf (fun hwf => ?_)
  obtain ⟨mb, f, hO, hV, hF, hav, hnm'⟩ := hS
  refine g_aload_n C dJ5_length_8abf5_0 rfl ?_
  refine g_get (ci := 1) C rfl inTJ4 3 (by decide) fl_RJ5_79 rfl hO rfl dJ5_length_8abf5_1 ?_
  exact g_ireturn C hQ dJ5_length_8abf5_4 (Nat.le_refl _) (Nat.le_refl _) ⟨rfl, rfl⟩
set_option maxHeartbeats 4000000 in
set_option maxRecDepth 100000 in
theorem c_J4_length_8abf5 (l : Launch) {K : KC} {E : GE} {w : Wd} {a v n m : Nat} (hS : SBw w a v n m) : St K E l yJ4_length_8abf5 cJ4_length_8abf5 1 (some .int) 1 (0) (0) [.ref a] w (fun r w' => r = some (iI (n : Int)) ∧ w' = w) := by
  refine st_intro [some (.ref a)] rfl (Nat.le_of_ble_eq_true rfl) pn_J4 ?_
  intro X C hT hRm hl hnm hQ
  obtain ⟨hRf, hRl, hRc, hRs⟩ := hRm
  refine g_wf (fun hwf => ?_)
  have hS0 := hS
  obtain ⟨mb, f, hO, hV, hF, hav, hnm'⟩ := hS
  refine g_aload_n C dJ4_length_8abf5_0 rfl ?_
  refine t_callP C hT (c_J5_length_8abf5 _ hS0) (ci := 1) rfl hO ml_RJ4_343 gw_sameMethod_java_lang_AbstractStringBuilder_java_lang_AbstractStringBui_541 gw_superclass_RJ4_RJ5 im_yJ5_length_8abf5 in_RJ5 co_yJ5_length_8abf5 ⟨by decide, hd_J5_length_8abf5.2.2⟩ rfl ⟨by omega, by omega⟩ rfl (Nat.le_of_ble_eq_true rfl) ⟨by omega, by omega⟩ dJ4_length_8abf5_1 (fun v1 w1 hp1 => ?_)
  obtain ⟨rfl, hw1⟩ := hp1
  subst w1
  exact g_ireturn C hQ dJ4_length_8abf5_4 (Nat.le_refl _) (Nat.le_refl _) ⟨rfl, rfl⟩
set_option maxHeartbeats 4000000 in
set_option maxRecDepth 100000 in
theorem c_J7_checkLength_df160 (l : Launch) {K : KC} {E : GE} {w : Wd} {x y : Int} (h : x ≤ y) (hx : -2147483648 ≤ x ∧ x < 2147483648) (hy : -2147483648 ≤ y ∧ y < 2147483648) : St K E l yJ7_checkLength_df160 cJ7_checkLength_df160 2 none 0 (0) (0) [iI x, iI y] w (fun r w' => r = none ∧ w' = w) := by
  refine st_intro [some (iI x), some (iI y)] rfl (Nat.le_of_ble_eq_true rfl) pn_J7 ?_
  intro X C hT hRm hl hnm hQ
  obtain ⟨hRf, hRl, hRc, hRs⟩ := hRm
  refine g_wf (fun hwf => ?_)
  refine g_iload_n C dJ7_checkLength_df160_0 rfl ?_
  refine g_iload_n C dJ7_checkLength_df160_1 rfl ?_
  refine g_icmp_ge (tgt := 37) C dJ7_checkLength_df160_2 (by decide) (by omega) (by omega) (fun h2 => ?_) (fun h2 => ?_)
  · exact g_return C hQ dJ7_checkLength_df160_37 (Nat.le_refl _) (Nat.le_refl _) ⟨rfl, rfl⟩
  · omega
set_option maxHeartbeats 4000000 in
set_option maxRecDepth 100000 in
theorem c_J7_copyOfRangeByte_39247 (l : Launch) {K : KC} {E : GE} {w : Wd} {b m n : Nat} {f : Nat → Int} (hb : w.2 b = some (true, eB m f)) (hF : bF f) (hn : n ≤ m ∧ m ≤ 1000000) : St K E l yJ7_copyOfRangeByte_39247 cJ7_copyOfRangeByte_39247 5 (some (.array .byte)) 1 (1) (n) [.ref b, iI 0, iI (n : Int)] w (fun r w' => r = some (.ref w.1) ∧ ∃ g, w' = wpush w (true, eB n g) ∧ bF g) := by
  refine st_intro [some (.ref b), some (iI 0), some (iI (n : Int)), none, none] rfl (Nat.le_of_ble_eq_true rfl) pn_J7 ?_
  intro X C hT hRm hl hnm hQ
  obtain ⟨hRf, hRl, hRc, hRs⟩ := hRm
  refine g_wf (fun hwf => ?_)
  have hne : b ≠ w.1 := Nat.ne_of_lt (hwf b _ hb)
  refine g_iload_n C dJ7_copyOfRangeByte_39247_0 rfl ?_
  refine g_iload_n C dJ7_copyOfRangeByte_39247_1 rfl ?_
  refine t_callS C hT (c_J7_checkLength_df160 _ (x := 0) (y := (n : Int)) (by omega) (by omega) (by omega)) ml_RJ7_343 sm_yJ7_checkLength_df160 in_RJ7 co_yJ7_checkLength_df160 hd_J7_checkLength_df160 rfl ⟨by omega, by omega⟩ rfl (Nat.le_of_ble_eq_true rfl) ⟨by omega, by omega⟩ dJ7_copyOfRangeByte_39247_2 (fun v2 w2 hp2 => ?_)
  obtain ⟨rfl, hw2⟩ := hp2
  subst w2
  refine g_iload_n C dJ7_copyOfRangeByte_39247_5 rfl ?_
  refine g_iload_n C dJ7_copyOfRangeByte_39247_6 rfl ?_
  refine g_isub C dJ7_copyOfRangeByte_39247_7 ?_
  refine g_istore_n C dJ7_copyOfRangeByte_39247_8 (by decide) rfl ?_
  refine g_iload_n C dJ7_copyOfRangeByte_39247_9 rfl ?_
  refine g_newB C gw_arrayClass_byte (N := n) (by omega) (by omega) (by omega) dJ7_copyOfRangeByte_39247_10 ?_
  refine g_astore C dJ7_copyOfRangeByte_39247_12 (by decide) rfl ?_
  refine g_aload_n C dJ7_copyOfRangeByte_39247_14 rfl ?_
  refine g_iload_n C dJ7_copyOfRangeByte_39247_15 rfl ?_
  refine g_aload C dJ7_copyOfRangeByte_39247_16 rfl ?_
  refine g_iconst C dJ7_copyOfRangeByte_39247_18 ?_
  refine g_aload_n C dJ7_copyOfRangeByte_39247_19 rfl ?_
  refine g_alen C (by rw [wpush_n hne]; exact hb) (Or.inr (Or.inl ⟨_, rfl⟩)) dJ7_copyOfRangeByte_39247_20 ?_
  refine g_iload_n C dJ7_copyOfRangeByte_39247_21 rfl ?_
  refine g_isub C dJ7_copyOfRangeByte_39247_22 ?_
  refine g_iload_n C dJ7_copyOfRangeByte_39247_23 rfl ?_
  refine g_min C ml_RJ7_304 (by omega) (by omega) (by omega) (by omega) (Nat.le_of_ble_eq_true rfl) (by omega) dJ7_copyOfRangeByte_39247_24 ?_
  refine g_acopyB C (f := f) (g := fun _ => 0) ⟨by rw [wpush_n hne]; exact hb, wpush_s, ⟨by omega, by omega, by split <;> omega, by split <;> omega, by split <;> omega, by omega, by omega⟩, hF⟩ ml_RJ7_150 (by omega) (by omega) (Nat.le_of_ble_eq_true rfl) dJ7_copyOfRangeByte_39247_27 ?_
  rw [wset_push]
  refine g_aload C dJ7_copyOfRangeByte_39247_30 rfl ?_
  exact g_areturn C (Or.inr ⟨_, rfl⟩) hQ (Or.inr ⟨_, rfl⟩) dJ7_copyOfRangeByte_39247_32 (by omega) (by omega) ⟨rfl, _, rfl, hF.cpy bF.zero _ _ _⟩
set_option maxHeartbeats 4000000 in
set_option maxRecDepth 100000 in
theorem c_J7_copyOfRange_39247 (l : Launch) {K : KC} {E : GE} {w : Wd} {b m n : Nat} {f : Nat → Int} (hb : w.2 b = some (true, eB m f)) (hF : bF f) (hn : n ≤ m ∧ m ≤ 1000000) : St K E l yJ7_copyOfRange_39247 cJ7_copyOfRange_39247 3 (some (.array .byte)) 2 (1) (n) [.ref b, iI 0, iI (n : Int)] w (fun r w' => r = some (.ref w.1) ∧ ∃ g, w' = wpush w (true, eB n g) ∧ bF g) := by
  refine st_intro [some (.ref b), some (iI 0), some (iI (n : Int))] rfl (Nat.le_of_ble_eq_true rfl) pn_J7 ?_
  intro X C hT hRm hl hnm hQ
  obtain ⟨hRf, hRl, hRc, hRs⟩ := hRm
  refine g_wf (fun hwf => ?_)
  refine g_iload_n C dJ7_copyOfRange_39247_0 rfl ?_
  refine g_if_ne (tgt := 10) C dJ7_copyOfRange_39247_1 (by decide) (by omega) (fun h1 => ?_) (fun h1 => ?_)
  · omega
  · refine g_iload_n C dJ7_copyOfRange_39247_4 rfl ?_
    refine g_aload_n C dJ7_copyOfRange_39247_5 rfl ?_
    refine g_alen C hb (Or.inr (Or.inl ⟨_, rfl⟩)) dJ7_copyOfRange_39247_6 ?_
    refine g_icmp_eq (tgt := 17) C dJ7_copyOfRange_39247_7 (by decide) (by omega) (by omega) (fun h7 => ?_) (fun h7 => ?_)
    · refine g_aload_n C dJ7_copyOfRange_39247_17 rfl ?_
      refine g_cloneB C hb hF ml_RJ7_310 (by omega) (by omega) (Nat.le_of_ble_eq_true rfl) (by omega) dJ7_copyOfRange_39247_18 ?_
      refine g_castB C wpush_s kl_RJ7_311 dJ7_copyOfRange_39247_21 ?_
      exact g_areturn C (Or.inr ⟨_, rfl⟩) hQ (Or.inr ⟨_, rfl⟩) dJ7_copyOfRange_39247_24 (by omega) (by omega) ⟨rfl, f, by rw [show m = n by omega], hF⟩
    · refine g_aload_n C dJ7_copyOfRange_39247_10 rfl ?_
      refine g_iload_n C dJ7_copyOfRange_39247_11 rfl ?_
      refine g_iload_n C dJ7_copyOfRange_39247_12 rfl ?_
      refine t_callS C hT (c_J7_copyOfRangeByte_39247 _ hb hF hn) ml_RJ7_339 sm_yJ7_copyOfRangeByte_39247 in_RJ7 co_yJ7_copyOfRangeByte_39247 hd_J7_copyOfRangeByte_39247 rfl ⟨by omega, by omega⟩ rfl (Nat.le_of_ble_eq_true rfl) ⟨by omega, by omega⟩ dJ7_copyOfRange_39247_13 (fun v13 w13 hp13 => ?_)
      obtain ⟨rfl, hp13⟩ := hp13
      exact g_areturn C (Or.inr ⟨_, rfl⟩) hQ (Or.inr ⟨_, rfl⟩) dJ7_copyOfRange_39247_16 (by omega) (by omega) ⟨rfl, hp13⟩
set_option maxHeartbeats 4000000 in
set_option maxRecDepth 100000 in
theorem c_J0_init_db425 (l : Launch) {K : KC} {E : GE} {w : Wd} {s : Nat} (hs : w.2 s = some (true, eO 0 [.null, iI 0, iI 0, iI 0])) {a v n m : Nat} (hS : SBw w a v n m) (hm : m ≤ 1000000) : St K E l yJ0_init_db425 cJ0_init_db425 5 none 3 (1) (n) [.ref s, .ref a, .null] w (fun r w' => r = none ∧ FrY w w' s s) := by
  refine st_intro [some (.ref s), some (.ref a), some .null, none, none] rfl (Nat.le_of_ble_eq_true rfl) pn_J0 ?_
  intro X C hT hRm hl hnm hQ
  obtain ⟨hRf, hRl, hRc, hRs⟩ := hRm
  refine g_wf (fun hwf => ?_)
  have hS0 := hS
  obtain ⟨mb, f, hO, hV, hF, hav, hnm'⟩ := hS
  have hsa : s ≠ a := fun e => by rw [e, hO] at hs; simp at hs
  refine g_aload_n C dJ0_init_db425_0 rfl ?_
  refine g_objInit C ml_RJ0_1 (by omega) (by omega) (Nat.le_of_ble_eq_true rfl) dJ0_init_db425_1 ?_
  refine g_aload_n C dJ0_init_db425_4 rfl ?_
  refine t_callU (owner := RJ5) C hT (c_J5_getValue_6d5f1 _ hS0) (RcV.ob (ci := 1) C rfl hO) rfl ml_RJ0_552 gw_sameMethod_java_lang_AbstractStringBuilder_java_lang_AbstractStringBui_536 se_RJ4__yJ5_getValue_6d5f1 im_yJ5_getValue_6d5f1 in_RJ5 co_yJ5_getValue_6d5f1 hd_J5_getValue_6d5f1 rfl ⟨by omega, by omega⟩ rfl (Nat.le_of_ble_eq_true rfl) ⟨by omega, by omega⟩ dJ0_init_db425_5 (fun v5 w5 hp5 => ?_)
  obtain ⟨rfl, hw5⟩ := hp5
  subst w5
  refine g_astore_n C dJ0_init_db425_8 (by decide) rfl ?_
  refine g_aload_n C dJ0_init_db425_9 rfl ?_
  refine t_callO (owner := RJ5) C hT (c_J4_length_8abf5 _ hS0) (RcV.ob (ci := 1) C rfl hO) ml_RJ0_549 gw_sameMethod_java_lang_AbstractStringBuilder_java_lang_AbstractStringBui_541 im_yJ5_length_8abf5 se_RJ4__yJ4_length_8abf5 im_yJ4_length_8abf5 in_RJ4 co_yJ4_length_8abf5 co_yJ5_length_8abf5 hd_J5_length_8abf5 rfl ⟨by omega, by omega⟩ rfl (Nat.le_of_ble_eq_true rfl) ⟨by omega, by omega⟩ dJ0_init_db425_10 (fun v10 w10 hp10 => ?_)
  obtain ⟨rfl, hw10⟩ := hp10
  subst w10
  refine g_istore C dJ0_init_db425_13 (by decide) rfl ?_
  refine g_aload_n C dJ0_init_db425_15 rfl ?_
  refine t_callU (owner := RJ5) C hT (c_J5_isLatin1_aae02 _ hS0) (RcV.ob (ci := 1) C rfl hO) rfl ml_RJ0_1047 gw_sameMethod_java_lang_AbstractStringBuilder_java_lang_AbstractStringBui_424 se_RJ4__yJ5_isLatin1_aae02 im_yJ5_isLatin1_aae02 in_RJ5 co_yJ5_isLatin1_aae02 hd_J5_isLatin1_aae02 rfl ⟨by omega, by omega⟩ rfl (Nat.le_of_ble_eq_true rfl) ⟨by omega, by omega⟩ dJ0_init_db425_16 (fun v16 w16 hp16 => ?_)
  obtain ⟨rfl, hw16⟩ := hp16
  subst w16
  refine g_if_eq (tgt := 41) C dJ0_init_db425_19 (by decide) (by omega) (fun h19 => ?_) (fun h19 => ?_)
  · omega
  · refine g_aload_n C dJ0_init_db425_22 rfl ?_
    refine g_iconst C dJ0_init_db425_23 ?_
    refine g_putF (ci := 0) C rfl inTJ0 tyJ0 tyJ0_ok nmJ0 1 (by decide) fl_RJ0_15 rfl rfl hnm rfl hs (Nat.le_of_ble_eq_true rfl) rfl rfl dJ0_init_db425_24 ?_
    refine g_aload_n C dJ0_init_db425_27 rfl ?_
    refine g_aload_n C dJ0_init_db425_28 rfl ?_
    refine g_iconst C dJ0_init_db425_29 ?_
    refine g_iload C dJ0_init_db425_30 rfl ?_
    refine t_callS C hT (c_J7_copyOfRange_39247 _ (by rw [wset_n (fun e => by rw [e, hs] at hV; simp at hV)]; exact hV) hF ⟨hnm', hm⟩) ml_RJ0_54 sm_yJ7_copyOfRange_39247 in_RJ7 co_yJ7_copyOfRange_39247 hd_J7_copyOfRange_39247 rfl ⟨by omega, by omega⟩ rfl (Nat.le_of_ble_eq_true rfl) ⟨by omega, by omega⟩ dJ0_init_db425_32 (fun v32 w32 hp32 => ?_)
    obtain ⟨rfl, g32, rfl, hg32⟩ := hp32
    refine g_putF (ci := 0) C rfl inTJ0 tyJ0 tyJ0_ok nmJ0 0 (by decide) fl_RJ0_9 rfl rfl hnm rfl (by rw [wpush_n (show s ≠ (wset w s _).1 from Nat.ne_of_lt (hwf s _ hs))]; exact wset_s) (Nat.le_of_ble_eq_true rfl) rfl rfl dJ0_init_db425_35 ?_
    refine g_goto (tgt := 97) C dJ0_init_db425_38 (by decide) ?_
    exact g_return C hQ dJ0_init_db425_97 (by omega) (by omega) ⟨rfl, (((FrY.rf w s s).set (Or.inl rfl) _).push _).set (Or.inl rfl) _⟩
set_option maxHeartbeats 4000000 in
set_option maxRecDepth 100000 in
theorem c_J0_init_81219 (l : Launch) {K : KC} {E : GE} {w : Wd} {s : Nat} (hs : w.2 s = some (true, eO 0 [.null, iI 0, iI 0, iI 0])) {a v n m : Nat} (hS : SBw w a v n m) (hm : m ≤ 1000000) : St K E l yJ0_init_81219 cJ0_init_81219 2 none 4 (1) (n) [.ref s, .ref a] w (fun r w' => r = none ∧ FrY w w' s s) := by
  refine st_intro [some (.ref s), some (.ref a)] rfl (Nat.le_of_ble_eq_true rfl) pn_J0 ?_
  intro X C hT hRm hl hnm hQ
  obtain ⟨hRf, hRl, hRc, hRs⟩ := hRm
  refine g_wf (fun hwf => ?_)
  refine g_aload_n C dJ0_init_81219_0 rfl ?_
  refine g_aload_n C dJ0_init_81219_1 rfl ?_
  refine g_null C dJ0_init_81219_2 ?_
  refine t_callI C hT (c_J0_init_db425 _ hs hS hm) ml_RJ0_489 im_yJ0_init_db425 in_RJ0 co_yJ0_init_db425 rfl hd_J0_init_db425 rfl ⟨by omega, by omega⟩ rfl (Nat.le_of_ble_eq_true rfl) ⟨by omega, by omega⟩ dJ0_init_81219_3 (fun v3 w3 hp3 => ?_)
  obtain ⟨rfl, hp3⟩ := hp3
  exact g_return C hQ dJ0_init_81219_6 (by omega) (by omega) ⟨rfl, hp3⟩
set_option maxHeartbeats 4000000 in
set_option maxRecDepth 100000 in
theorem c_J4_toString_0e30d (l : Launch) {K : KC} {E : GE} {w : Wd} {a v n m : Nat} (hS : SBw w a v n m) (hm : m ≤ 1000000) : St K E l yJ4_toString_0e30d cJ4_toString_0e30d 1 (some (.object "java/lang/String")) 5 (2) (4 + n) [.ref a] w (fun r w' => r = some (.ref w.1) ∧ Fr w w') := by
  refine st_intro [some (.ref a)] rfl (Nat.le_of_ble_eq_true rfl) pn_J4 ?_
  intro X C hT hRm hl hnm hQ
  obtain ⟨hRf, hRl, hRc, hRs⟩ := hRm
  refine g_wf (fun hwf => ?_)
  refine g_new (ci := 0) C rfl inTJ0 tyJ0 tyJ0_ok kl_RJ4_18 ib_RJ0 in_RJ0 (fs := [.null, iI 0, iI 0, iI 0]) (by intro j hj; repeat (first | rfl | (cases j; rfl) | (rename_i j; cases j; rfl) | omega)) (by omega) dJ4_toString_0e30d_0 ?_
  refine g_dup C dJ4_toString_0e30d_3 rfl ?_
  refine g_aload_n C dJ4_toString_0e30d_4 rfl ?_
  obtain ⟨mb, f, hO, hV, hF, hav, hnm'⟩ := hS
  have hS1 : SBw (wpush w (true, eO 0 [.null, iI 0, iI 0, iI 0])) a v n m := ⟨mb, f, by rw [wpush_n (Nat.ne_of_lt (hwf a _ hO))]; exact hO, by rw [wpush_n (Nat.ne_of_lt (hwf v _ hV))]; exact hV, hF, hav, hnm'⟩
  refine t_callI C hT (c_J0_init_81219 _ wpush_s hS1 hm) ml_RJ4_137 im_yJ0_init_81219 in_RJ0 co_yJ0_init_81219 rfl hd_J0_init_81219 rfl ⟨by omega, by omega⟩ rfl (Nat.le_of_ble_eq_true rfl) ⟨by omega, by omega⟩ dJ4_toString_0e30d_5 (fun v5 w5 hp5 => ?_)
  obtain ⟨rfl, hp5⟩ := hp5
  exact g_areturn C (Or.inl ⟨_, rfl⟩) hQ (Or.inr ⟨_, rfl⟩) dJ4_toString_0e30d_8 (by omega) (by omega) ⟨rfl, FrY.fr ((Fr.rf w).push _) hp5 (Nat.le_refl _) (Nat.le_refl _)⟩
set_option maxHeartbeats 4000000 in
set_option maxRecDepth 100000 in
theorem c_J5_reverse_278bc (l : Launch) {K : KC} {E : GE} {w : Wd} {a v n m : Nat} (hS : SBw w a v n m) (hm : m ≤ 1000000) : St K E l yJ5_reverse_278bc cJ5_reverse_278bc 7 (some (.object "java/lang/AbstractStringBuilder")) 1 (0) (0) [.ref a] w (fun r w' => r = some (.ref a) ∧ ∃ (v' : Nat), SBw w' a v' (n) (m) ∧ (v' = v ∨ w.1 ≤ v') ∧ FrY w w' a v) := by
  refine st_intro [some (.ref a), none, none, none, none, none, none] rfl (Nat.le_of_ble_eq_true rfl) pn_J5 ?_
  intro X C hT hRm hl hnm hQ
  obtain ⟨hRf, hRl, hRc, hRs⟩ := hRm
  refine g_wf (fun hwf => ?_)
  have hS0 := hS
  obtain ⟨mb, f, hO, hV, hF, hav, hnm'⟩ := hS
  refine g_aload_n C dJ5_reverse_278bc_0 rfl ?_
  refine g_get (ci := 1) C rfl inTJ4 0 (by decide) fl_RJ5_15 rfl hO rfl dJ5_reverse_278bc_1 ?_
  refine g_astore_n C dJ5_reverse_278bc_4 (by decide) rfl ?_
  refine g_aload_n C dJ5_reverse_278bc_5 rfl ?_
  refine g_get (ci := 1) C rfl inTJ4 3 (by decide) fl_RJ5_79 rfl hO rfl dJ5_reverse_278bc_6 ?_
  refine g_istore_n C dJ5_reverse_278bc_9 (by decide) rfl ?_
  refine g_iload_n C dJ5_reverse_278bc_10 rfl ?_
  refine g_iconst C dJ5_reverse_278bc_11 ?_
  refine g_isub C dJ5_reverse_278bc_12 ?_
  refine g_istore_n C dJ5_reverse_278bc_13 (by decide) rfl ?_
  refine g_aload_n C dJ5_reverse_278bc_14 rfl ?_
  refine t_callU (owner := RJ5) C hT (c_J5_isLatin1_aae02 _ hS0) (RcV.ob (ci := 1) C rfl hO) rfl ml_RJ5_83 gw_sameMethod_java_lang_AbstractStringBuilder_java_lang_AbstractStringBui_424 se_RJ4__yJ5_isLatin1_aae02 im_yJ5_isLatin1_aae02 in_RJ5 co_yJ5_isLatin1_aae02 hd_J5_isLatin1_aae02 rfl ⟨by omega, by omega⟩ rfl (Nat.le_of_ble_eq_true rfl) ⟨by omega, by omega⟩ dJ5_reverse_278bc_15 (fun v15 w15 hp15 => ?_)
  obtain ⟨rfl, hw15⟩ := hp15
  subst w15
  refine g_if_eq (tgt := 68) C dJ5_reverse_278bc_18 (by decide) (by omega) (fun h18 => ?_) (fun h18 => ?_)
  · omega
  · refine g_iload_n C dJ5_reverse_278bc_21 rfl ?_
    refine g_iconst C dJ5_reverse_278bc_22 ?_
    refine g_isub C dJ5_reverse_278bc_23 ?_
    refine g_iconst C dJ5_reverse_278bc_24 ?_
    refine g_ishr (z := ((n : Int) - 1 - 1) / 2 ^ (1 : Int).toNat) C dJ5_reverse_278bc_25 (i_shr (by omega) (by omega)) ?_
    refine g_istore C dJ5_reverse_278bc_26 (by decide) rfl ?_
    suffices hh : G E X 7 28 [some (.ref a), some (.ref v), some (iI (n : Int)), some (iI ((n : Int) - 1)), some (iI (((n : Int) - 1 - 1) / 2 ^ (1 : Int).toNat)), none, none] [] (wset w v (true, eB m f)) 0 0 by rw [wset_id hV] at hh; exact hh
    refine g_loop (σ := Int × (Nat → Int)) (fun s => -1 ≤ s.1 ∧ s.1 + s.1 + 2 ≤ n ∧ bF s.2) (fun s => G E X 7 28 [some (.ref a), some (.ref v), some (iI (n : Int)), some (iI ((n : Int) - 1)), some (iI s.1), none, none] [] (wset w v (true, eB m s.2)) 0 0) (fun s => (s.1 + 1).toNat) ?_ (((n : Int) - 1 - 1) / 2 ^ (1 : Int).toNat, f) ⟨by show -1 ≤ ((n : Int) - 1 - 1) / 2; omega, by show ((n : Int) - 1 - 1) / 2 + ((n : Int) - 1 - 1) / 2 + 2 ≤ n; omega, hF⟩
    rintro ⟨j, h⟩ hq ih
    obtain ⟨hj0, hj1, hh⟩ := hq
    dsimp only at hj0 hj1 hh ⊢
    refine g_iload C dJ5_reverse_278bc_28 rfl ?_
    refine g_if_lt (tgt := 65) C dJ5_reverse_278bc_30 (by decide) (by omega) (fun h30 => ?_) (fun h30 => ?_)
    · refine g_goto (tgt := 73) C dJ5_reverse_278bc_65 (by decide) ?_
      refine g_aload_n C dJ5_reverse_278bc_73 rfl ?_
      exact g_areturn C (Or.inl ⟨_, rfl⟩) hQ (Or.inr ⟨_, rfl⟩) dJ5_reverse_278bc_74 (by omega) (by omega) ⟨rfl, v, ⟨mb, h, by rw [wset_n hav]; exact hO, wset_s, hh, hav, hnm'⟩, Or.inl rfl, (FrY.rf _ _ _).set (by omega) _⟩
    · refine g_iload_n C dJ5_reverse_278bc_33 rfl ?_
      refine g_iload C dJ5_reverse_278bc_34 rfl ?_
      refine g_isub C dJ5_reverse_278bc_36 ?_
      refine g_istore C dJ5_reverse_278bc_37 (by decide) rfl ?_
      refine g_aload_n C dJ5_reverse_278bc_39 rfl ?_
      refine g_iload C dJ5_reverse_278bc_40 rfl ?_
      refine g_baload C wset_s (by omega) dJ5_reverse_278bc_42 ?_
      refine g_istore C dJ5_reverse_278bc_43 (by decide) rfl ?_
      refine g_aload_n C dJ5_reverse_278bc_45 rfl ?_
      refine g_iload C dJ5_reverse_278bc_46 rfl ?_
      refine g_aload_n C dJ5_reverse_278bc_48 rfl ?_
      refine g_iload C dJ5_reverse_278bc_49 rfl ?_
      refine g_baload C wset_s (by omega) dJ5_reverse_278bc_51 ?_
      refine g_bastore C wset_s (by omega) (Classical.choose_spec (b_nar _)).1 dJ5_reverse_278bc_52 ?_
      rw [wset_set]
      refine g_aload_n C dJ5_reverse_278bc_53 rfl ?_
      refine g_iload C dJ5_reverse_278bc_54 rfl ?_
      refine g_iload C dJ5_reverse_278bc_56 rfl ?_
      refine g_bastore C wset_s (by omega) (Classical.choose_spec (b_nar _)).1 dJ5_reverse_278bc_58 ?_
      rw [wset_set]
      refine g_iinc C dJ5_reverse_278bc_59 rfl (by decide) rfl ?_
      refine g_goto (tgt := 28) C dJ5_reverse_278bc_62 (by decide) ?_
      refine g_drop 5 (g_drop 6 ?_)
      exact ih (j + -1, _) ⟨by dsimp only; omega, by dsimp only; omega, (hh.iup _ (Classical.choose_spec (b_nar _)).2).iup _ (Classical.choose_spec (b_nar _)).2⟩ (by dsimp only; omega)
set_option maxHeartbeats 4000000 in
set_option maxRecDepth 100000 in
theorem c_J4_reverse_43fcb (l : Launch) {K : KC} {E : GE} {w : Wd} {a v n m : Nat} (hS : SBw w a v n m) (hm : m ≤ 1000000) : St K E l yJ4_reverse_43fcb cJ4_reverse_43fcb 1 (some (.object "java/lang/StringBuilder")) 2 (0) (0) [.ref a] w (fun r w' => r = some (.ref a) ∧ ∃ (v' : Nat), SBw w' a v' (n) (m) ∧ (v' = v ∨ w.1 ≤ v') ∧ FrY w w' a v) := by
  refine st_intro [some (.ref a)] rfl (Nat.le_of_ble_eq_true rfl) pn_J4 ?_
  intro X C hT hRm hl hnm hQ
  obtain ⟨hRf, hRl, hRc, hRs⟩ := hRm
  refine g_wf (fun hwf => ?_)
  have hS0 := hS
  obtain ⟨mb, f, hO, hV, hF, hav, hnm'⟩ := hS
  refine g_aload_n C dJ4_reverse_43fcb_0 rfl ?_
  refine t_callP C hT (c_J5_reverse_278bc _ hS0 hm) (ci := 1) rfl hO ml_RJ4_127 gw_sameMethod_java_lang_AbstractStringBuilder_java_lang_AbstractStringBui_1924 gw_superclass_RJ4_RJ5 im_yJ5_reverse_278bc in_RJ5 co_yJ5_reverse_278bc ⟨by decide, hd_J5_reverse_278bc.2.2⟩ rfl ⟨by omega, by omega⟩ rfl (Nat.le_of_ble_eq_true rfl) ⟨by omega, by omega⟩ dJ4_reverse_43fcb_1 (fun v1 w1 hp1 => ?_)
  obtain ⟨rfl, hp1⟩ := hp1
  refine g_pop C dJ4_reverse_43fcb_4 rfl ?_
  refine g_aload_n C dJ4_reverse_43fcb_5 rfl ?_
  exact g_areturn C (Or.inl ⟨_, rfl⟩) hQ (Or.inr ⟨_, rfl⟩) dJ4_reverse_43fcb_6 (by omega) (by omega) ⟨rfl, hp1⟩
set_option maxHeartbeats 4000000 in
set_option maxRecDepth 100000 in
theorem c_J5_setLength_d00df (l : Launch) {K : KC} {E : GE} {w : Wd} {a v n m : Nat} (hS : SBw w a v n m) (hm : m ≤ 100000) : St K E l yJ5_setLength_d00df cJ5_setLength_d00df 2 none 4 (0) (0) [.ref a, iI 0] w (fun r w' => r = none ∧ ∃ (v' : Nat), SBw w' a v' (0) (m) ∧ (v' = v ∨ w.1 ≤ v') ∧ FrY w w' a v) := by
  refine st_intro [some (.ref a), some (iI 0)] rfl (Nat.le_of_ble_eq_true rfl) pn_J5 ?_
  intro X C hT hRm hl hnm hQ
  obtain ⟨hRf, hRl, hRc, hRs⟩ := hRm
  refine g_wf (fun hwf => ?_)
  have hS0 := hS
  obtain ⟨mb, f, hO, hV, hF, hav, hnm'⟩ := hS
  refine g_iload_n C dJ5_setLength_d00df_0 rfl ?_
  refine g_if_ge (tgt := 13) C dJ5_setLength_d00df_1 (by decide) (by omega) (fun h1 => ?_) (fun h1 => ?_)
  · have e0 : gC 0 m = 0 ∧ gS 0 m = 0 ∧ capG 0 m = m := ⟨if_pos (Nat.zero_le _), if_pos (Nat.zero_le _), if_pos (Nat.zero_le _)⟩
    refine g_aload_n C dJ5_setLength_d00df_13 rfl ?_
    refine g_iload_n C dJ5_setLength_d00df_14 rfl ?_
    refine t_callU (owner := RJ5) C hT (c_J5_ensureCapacityInternal_d00df _ hS0 (q := 0) (by omega) hm) (RcV.ob (ci := 1) C rfl hO) rfl ml_RJ5_100 gw_sameMethod_java_lang_AbstractStringBuilder_java_lang_AbstractStringBui_1916 se_RJ4__yJ5_ensureCapacityInternal_d00df im_yJ5_ensureCapacityInternal_d00df in_RJ5 co_yJ5_ensureCapacityInternal_d00df hd_J5_ensureCapacityInternal_d00df rfl ⟨by omega, by omega⟩ rfl (Nat.le_of_ble_eq_true rfl) ⟨by omega, by omega⟩ dJ5_setLength_d00df_15 (fun v15 w15 hp15 => ?_)
    obtain ⟨rfl, v1, hS1, hv1, fr1⟩ := hp15
    rw [e0.2.2] at hS1
    obtain ⟨mb1, f1, hO1, hV1, hF1, hav1, hnm1⟩ := id hS1
    refine g_aload_n C dJ5_setLength_d00df_18 rfl ?_
    refine g_get (ci := 1) C rfl inTJ4 3 (by decide) fl_RJ5_79 rfl hO1 rfl dJ5_setLength_d00df_19 ?_
    refine g_iload_n C dJ5_setLength_d00df_22 rfl ?_
    refine g_icmp_ge (tgt := 63) C dJ5_setLength_d00df_23 (by decide) (by omega) (by omega) (fun h23 => ?_) (fun h23 => ?_)
    · refine g_aload_n C dJ5_setLength_d00df_63 rfl ?_
      refine g_get (ci := 1) C rfl inTJ4 3 (by decide) fl_RJ5_79 rfl hO1 rfl dJ5_setLength_d00df_64 ?_
      refine g_iload_n C dJ5_setLength_d00df_67 rfl ?_
      refine g_icmp_le (tgt := 76) C dJ5_setLength_d00df_68 (by decide) (by omega) (by omega) (fun h68 => ?_) (fun h68 => ?_)
      · refine g_aload_n C dJ5_setLength_d00df_76 rfl ?_
        refine g_iload_n C dJ5_setLength_d00df_77 rfl ?_
        refine g_put (ci := 1) C rfl inTJ4 tyJ4 tyJ4_ok nmJ4 3 (by decide) fl_RJ5_79 rfl rfl (by first | exact wset_s | exact hO1) (Nat.le_of_ble_eq_true rfl) rfl rfl dJ5_setLength_d00df_78 ?_
        exact g_return C hQ dJ5_setLength_d00df_81 (by omega) (by omega) (by
          first
          | exact ⟨rfl, v1, ⟨1, f1, by rw [wset_set]; exact wset_s, by rw [wset_n (Ne.symm hav1), wset_n (Ne.symm hav1)]; exact hV1, hF1, hav1, by omega⟩, hv1, (fr1.set (Or.inl rfl) _).set (Or.inl rfl) _⟩
          | exact ⟨rfl, v1, ⟨mb1, f1, wset_s, by rw [wset_n (Ne.symm hav1)]; exact hV1, hF1, hav1, by omega⟩, hv1, fr1.set (Or.inl rfl) _⟩)
      · refine g_aload_n C dJ5_setLength_d00df_71 rfl ?_
        refine g_iconst C dJ5_setLength_d00df_72 ?_
        refine g_put (ci := 1) C rfl inTJ4 tyJ4 tyJ4_ok nmJ4 2 (by decide) fl_RJ5_73 rfl rfl hO1 (Nat.le_of_ble_eq_true rfl) rfl rfl dJ5_setLength_d00df_73 ?_
        refine g_aload_n C dJ5_setLength_d00df_76 rfl ?_
        refine g_iload_n C dJ5_setLength_d00df_77 rfl ?_
        refine g_put (ci := 1) C rfl inTJ4 tyJ4 tyJ4_ok nmJ4 3 (by decide) fl_RJ5_79 rfl rfl (by first | exact wset_s | exact hO1) (Nat.le_of_ble_eq_true rfl) rfl rfl dJ5_setLength_d00df_78 ?_
        exact g_return C hQ dJ5_setLength_d00df_81 (by omega) (by omega) (by
          first
          | exact ⟨rfl, v1, ⟨1, f1, by rw [wset_set]; exact wset_s, by rw [wset_n (Ne.symm hav1), wset_n (Ne.symm hav1)]; exact hV1, hF1, hav1, by omega⟩, hv1, (fr1.set (Or.inl rfl) _).set (Or.inl rfl) _⟩
          | exact ⟨rfl, v1, ⟨mb1, f1, wset_s, by rw [wset_n (Ne.symm hav1)]; exact hV1, hF1, hav1, by omega⟩, hv1, fr1.set (Or.inl rfl) _⟩)
    · omega
  · omega
set_option maxHeartbeats 4000000 in
set_option maxRecDepth 100000 in
theorem c_J4_setLength_d00df (l : Launch) {K : KC} {E : GE} {w : Wd} {a v n m : Nat} (hS : SBw w a v n m) (hm : m ≤ 100000) : St K E l yJ4_setLength_d00df cJ4_setLength_d00df 2 none 5 (0) (0) [.ref a, iI 0] w (fun r w' => r = none ∧ ∃ (v' : Nat), SBw w' a v' (0) (m) ∧ (v' = v ∨ w.1 ≤ v') ∧ FrY w w' a v) := by
  refine st_intro [some (.ref a), some (iI 0)] rfl (Nat.le_of_ble_eq_true rfl) pn_J4 ?_
  intro X C hT hRm hl hnm hQ
  obtain ⟨hRf, hRl, hRc, hRs⟩ := hRm
  refine g_wf (fun hwf => ?_)
  have hS0 := hS
  obtain ⟨mb, f, hO, hV, hF, hav, hnm'⟩ := hS
  refine g_aload_n C dJ4_setLength_d00df_0 rfl ?_
  refine g_iload_n C dJ4_setLength_d00df_1 rfl ?_
  refine t_callP C hT (c_J5_setLength_d00df _ hS0 hm) (ci := 1) rfl hO ml_RJ4_333 gw_sameMethod_java_lang_AbstractStringBuilder_java_lang_AbstractStringBui gw_superclass_RJ4_RJ5 im_yJ5_setLength_d00df in_RJ5 co_yJ5_setLength_d00df ⟨by decide, hd_J5_setLength_d00df.2.2⟩ rfl ⟨by omega, by omega⟩ rfl (Nat.le_of_ble_eq_true rfl) ⟨by omega, by omega⟩ dJ4_setLength_d00df_2 (fun v2 w2 hp2 => ?_)
  obtain ⟨rfl, hp2⟩ := hp2
  exact g_return C hQ dJ4_setLength_d00df_5 (Nat.le_refl _) (Nat.le_refl _) ⟨rfl, hp2⟩
set_option maxHeartbeats 4000000 in
set_option maxRecDepth 100000 in
theorem c_J5_charAt_5068e (l : Launch) {K : KC} {E : GE} {w : Wd} {a v n m : Nat} (hS : SBw w a v n m) {p : Nat} (hp : p < n) (hm : m ≤ 1000000) : St K E l yJ5_charAt_5068e cJ5_charAt_5068e 5 (some .char) 2 (0) (0) [.ref a, iI (p : Int)] w (fun r w' => (∃ y : Int, r = some (iI y) ∧ 0 ≤ y ∧ y ≤ 255) ∧ w' = w) := by
  refine st_intro [some (.ref a), some (iI (p : Int)), none, none, none] rfl (Nat.le_of_ble_eq_true rfl) pn_J5 ?_
  intro X C hT hRm hl hnm hQ
  obtain ⟨hRf, hRl, hRc, hRs⟩ := hRm
  refine g_wf (fun hwf => ?_)
  have hS0 := hS
  obtain ⟨mb, f, hO, hV, hF, hav, hnm'⟩ := hS
  refine g_aload_n C dJ5_charAt_5068e_0 rfl ?_
  refine g_get (ci := 1) C rfl inTJ4 1 (by decide) fl_RJ5_22 rfl hO rfl dJ5_charAt_5068e_1 ?_
  refine g_istore_n C dJ5_charAt_5068e_4 (by decide) rfl ?_
  refine g_aload_n C dJ5_charAt_5068e_5 rfl ?_
  refine g_get (ci := 1) C rfl inTJ4 0 (by decide) fl_RJ5_15 rfl hO rfl dJ5_charAt_5068e_6 ?_
  refine g_astore_n C dJ5_charAt_5068e_9 (by decide) rfl ?_
  refine g_aload_n C dJ5_charAt_5068e_10 rfl ?_
  refine g_get (ci := 1) C rfl inTJ4 3 (by decide) fl_RJ5_79 rfl hO rfl dJ5_charAt_5068e_11 ?_
  refine g_aload_n C dJ5_charAt_5068e_14 rfl ?_
  refine g_alen C hV (Or.inr (Or.inl ⟨_, rfl⟩)) dJ5_charAt_5068e_15 ?_
  refine g_iload_n C dJ5_charAt_5068e_16 rfl ?_
  refine g_ishr (z := (m : Int)) C dJ5_charAt_5068e_17 (i_shr0 (by omega)) ?_
  refine g_min C ml_RJ5_138 (by omega) (by omega) (by omega) (by omega) (Nat.le_of_ble_eq_true rfl) (by omega) dJ5_charAt_5068e_18 ?_
  rw [if_neg (by omega)]
  refine g_istore C dJ5_charAt_5068e_21 (by decide) rfl ?_
  refine g_iload_n C dJ5_charAt_5068e_23 rfl ?_
  refine g_iload C dJ5_charAt_5068e_24 rfl ?_
  refine t_callS C hT (c_J0_checkIndex_df160 _ (i := (p : Int)) (n := (n : Int)) (by omega)) ml_RJ5_144 sm_yJ0_checkIndex_df160 in_RJ0 co_yJ0_checkIndex_df160 hd_J0_checkIndex_df160 rfl ⟨by omega, by omega⟩ rfl (Nat.le_of_ble_eq_true rfl) ⟨by omega, by omega⟩ dJ5_charAt_5068e_26 (fun v26 w26 hp26 => ?_)
  obtain ⟨rfl, hw26⟩ := hp26
  subst w26
  refine g_iload_n C dJ5_charAt_5068e_29 rfl ?_
  refine g_if_ne (tgt := 42) C dJ5_charAt_5068e_30 (by decide) (by omega) (fun h30 => ?_) (fun h30 => ?_)
  · omega
  · refine g_aload_n C dJ5_charAt_5068e_33 rfl ?_
    refine g_iload_n C dJ5_charAt_5068e_34 rfl ?_
    refine g_baload C hV (by omega) dJ5_charAt_5068e_35 ?_
    refine g_sipush C dJ5_charAt_5068e_36 (by decide) ?_
    obtain ⟨y8, hy8, y80, y81⟩ := b255 (Int32.ofInt (f (p : Int).toNat))
    refine g_iand (z := y8) C dJ5_charAt_5068e_39 hy8 ?_
    refine g_i2c (z := y8) C dJ5_charAt_5068e_40 (i2c_n y80 (by omega)) ?_
    exact g_zreturn C hQ dJ5_charAt_5068e_41 (nar_ch y80 (by omega)) (Nat.le_refl _) (Nat.le_refl _) ⟨⟨y8, rfl, y80, y81⟩, rfl⟩
set_option maxHeartbeats 4000000 in
set_option maxRecDepth 100000 in
theorem c_J4_charAt_5068e (l : Launch) {K : KC} {E : GE} {w : Wd} {a v n m : Nat} (hS : SBw w a v n m) {p : Nat} (hp : p < n) (hm : m ≤ 1000000) : St K E l yJ4_charAt_5068e cJ4_charAt_5068e 2 (some .char) 3 (0) (0) [.ref a, iI (p : Int)] w (fun r w' => (∃ y : Int, r = some (iI y) ∧ 0 ≤ y ∧ y ≤ 255) ∧ w' = w) := by
  refine st_intro [some (.ref a), some (iI (p : Int))] rfl (Nat.le_of_ble_eq_true rfl) pn_J4 ?_
  intro X C hT hRm hl hnm hQ
  obtain ⟨hRf, hRl, hRc, hRs⟩ := hRm
  refine g_wf (fun hwf => ?_)
  have hS0 := hS
  obtain ⟨mb, f, hO, hV, hF, hav, hnm'⟩ := hS
  refine g_aload_n C dJ4_charAt_5068e_0 rfl ?_
  refine g_iload_n C dJ4_charAt_5068e_1 rfl ?_
  refine t_callP C hT (c_J5_charAt_5068e _ hS0 hp hm) (ci := 1) rfl hO ml_RJ4_329 gw_sameMethod_java_lang_AbstractStringBuilder_java_lang_AbstractStringBui_1926 gw_superclass_RJ4_RJ5 im_yJ5_charAt_5068e in_RJ5 co_yJ5_charAt_5068e ⟨by decide, hd_J5_charAt_5068e.2.2⟩ rfl ⟨by omega, by omega⟩ rfl (Nat.le_of_ble_eq_true rfl) ⟨by omega, by omega⟩ dJ4_charAt_5068e_2 (fun v2 w2 hp2 => ?_)
  obtain ⟨⟨y, rfl, y0, y1⟩, hw2⟩ := hp2
  subst w2
  exact g_zreturn C hQ dJ4_charAt_5068e_5 (nar_ch y0 (by omega)) (Nat.le_refl _) (Nat.le_refl _) ⟨⟨y, rfl, y0, y1⟩, rfl⟩
theorem RcV.sb {E X own cc nL ret} (C : CX E X own cc nL ret) {w : Wd} {a v n m : Nat} (h : SBw w a v n m) : RcV E X w RJ4 a := by
  obtain ⟨mb, f, hO, -⟩ := h
  exact RcV.ob (ci := 1) C rfl hO
def SBq (W0 w : Wd) (a N : Nat) : Prop := ∃ v n m, SBw w a v n m ∧ n ≤ N ∧ m ≤ 2 * n + 16 ∧ W0.1 ≤ v ∧ W0.1 ≤ a ∧ Fr W0 w
theorem SBq.new {w u : Wd} {e : WdE} (hw : wF w) (h : ∃ v, SBw u w.1 v 0 16 ∧ (wpush w e).1 ≤ v ∧ FrY (wpush w e) u w.1 w.1) : SBq w u w.1 0 := by
  obtain ⟨v, h1, h2, h3⟩ := h
  have h2 : w.1 + 1 ≤ v := h2
  exact ⟨v, 0, 16, h1, Nat.le_refl _, by omega, by omega, Nat.le_refl _, FrY.fr ((Fr.rf w).push e) h3 (Nat.le_refl _) (Nat.le_refl _)⟩
theorem capG_up {n k m : Nat} (h : m ≤ 2 * n + 16) : capG (n + k) m ≤ 2 * (n + k) + 16 := by
  unfold capG; split <;> (try split) <;> omega
theorem SBq.int {W0 w u : Wd} {a v n m N : Nat} (hn : n ≤ N) (hm : m ≤ 2 * n + 16) (hv : W0.1 ≤ v) (ha : W0.1 ≤ a) (hf : Fr W0 w) (h : ∃ v' k : Nat, 1 ≤ k ∧ k ≤ 11 ∧ SBw u a v' (n + k) (capG (n + k) m) ∧ (v' = v ∨ w.1 ≤ v') ∧ FrY w u a v) : SBq W0 u a (N + 11) := by
  obtain ⟨v', k, h1, h2, h3, h4, h5⟩ := h
  exact ⟨v', n + k, _, h3, by omega, capG_up hm, by have := hf.1; omega, ha, FrY.fr hf h5 ha hv⟩
theorem grow1 {w : Wd} {a v n m i : Nat} (h : SBw w a v n m) (hm : m ≤ 2 * n + 16) : gC (n + (kBy i).length) m ≤ 1 ∧ gS (n + (kBy i).length) m ≤ 2 * n + 48 ∧ (kBy i).length ≤ 16 := by
  have h1 := kBy_r i
  have h2 := capG_up (k := (kBy i).length) hm
  refine ⟨by unfold gC; split <;> omega, by unfold gS; split <;> omega, h1⟩
theorem SBq.str {W0 w u : Wd} {a v n m N i : Nat} (hn : n ≤ N) (hm : m ≤ 2 * n + 16) (hv : W0.1 ≤ v) (ha : W0.1 ≤ a) (hf : Fr W0 w) (hg : gC (n + (kBy i).length) m ≤ 1 ∧ gS (n + (kBy i).length) m ≤ 2 * n + 48 ∧ (kBy i).length ≤ 16) (h : ∃ v' : Nat, SBw u a v' (n + (kBy i).length) (capG (n + (kBy i).length) m) ∧ (v' = v ∨ w.1 ≤ v') ∧ FrY w u a v) : SBq W0 u a (N + 16) := by
  obtain ⟨v', h3, h4, h5⟩ := h
  exact ⟨v', n + (kBy i).length, _, h3, by omega, capG_up hm, by have := hf.1; omega, ha, FrY.fr hf h5 ha hv⟩
theorem grow {n m c s : Nat} (h1 : n ≤ m) (h2 : 18 * c + 16 ≤ m) (h3 : s + 32 ≤ 2 * m) (h4 : m ≤ 2 * n + 16) : 18 * (c + gC (n + 1) m) + 16 ≤ capG (n + 1) m ∧ s + gS (n + 1) m + 32 ≤ 2 * capG (n + 1) m ∧ capG (n + 1) m ≤ 2 * (n + 1) + 16 := by
  have h5 := capG_up (k := 1) h4
  have h6 := capG_ge (n + 1) m
  unfold gC gS
  by_cases q : n + 1 ≤ m
  · have e : capG (n + 1) m = m := if_pos q
    rw [if_pos q, if_pos q]
    omega
  · have e : capG (n + 1) m = 2 * m + 2 := by
      unfold capG
      rw [if_neg q, if_neg (by omega)]
    rw [if_neg q, if_neg q]
    omega
set_option maxHeartbeats 4000000 in
set_option maxRecDepth 100000 in
theorem c_X8_joined (l : Launch) {K : KC} {E : GE} {w : Wd} {q N : Nat} {f : Nat → Int} (hpq : w.2 q = some (true, eI 17 f)) (hfp : ∀ j, j < 17 → 0 ≤ f j ∧ f j ≤ 10) (hN : N ≤ 16) : St K E l yX8_joined cX8_joined 4 (some (.object "java/lang/String")) 6 (21) (15600) [.ref q, iI (N : Int)] w (fun r' w' => ∃ s : Nat, r' = some (.ref s) ∧ Fr w w') := by
  refine st_intro [some (.ref q), some (iI (N : Int)), none, none] rfl (Nat.le_of_ble_eq_true rfl) pn_X8 ?_
  intro X C hT hRm hl hnm hQ
  obtain ⟨hRf, hRl, hRc, hRs⟩ := hRm
  refine g_wf (fun hwf => ?_)
  refine g_wf (fun hwq => ?_)
  refine g_new (ci := 1) C rfl inTJ4 tyJ4 tyJ4_ok kl_RX8_86 ib_RJ4 in_RJ4 (fs := [.null, iI 0, iI 0, iI 0]) (by intro j hj; repeat (first | rfl | (cases j; rfl) | (rename_i j; cases j; rfl) | omega)) (by omega) dX8_joined_0 ?_
  refine g_dup C dX8_joined_3 rfl ?_
  refine t_callI C hT (c_J4_init_da8c8 _ wpush_s) ml_RX8_88 im_yJ4_init_da8c8 in_RJ4 co_yJ4_init_da8c8 rfl hd_J4_init_da8c8 rfl ⟨by omega, by omega⟩ rfl (Nat.le_of_ble_eq_true rfl) ⟨by omega, by omega⟩ dX8_joined_4 (fun v4 w4 hp4 => ?_)
  obtain ⟨rfl, hq0⟩ := hp4
  have hq := SBq.new hwq hq0
  refine g_astore_n C dX8_joined_7 (by decide) rfl ?_
  refine g_iconst C dX8_joined_8 ?_
  refine g_istore_n C dX8_joined_9 (by decide) rfl ?_
  refine g_widen (k' := 2) (n' := 20) (by omega) (by omega) ?_
  refine g_loop (σ := Nat × Wd) (fun t => t.1 ≤ N + 1 ∧ SBq w t.2 w.1 (11 * t.1)) (fun t => G E X 4 10 [some (.ref q), some (iI (N : Int)), some (.ref w.1), some (iI (t.1 : Int))] [] t.2 (2 + t.1) (20 + 900 * t.1)) (fun t => N + 1 - t.1) ?_ (0, w4) ⟨by dsimp only; omega, hq⟩
  rintro ⟨j, u⟩ hqq ih
  obtain ⟨hj, hq⟩ := hqq
  dsimp only at hj hq ⊢
  have hpl : u.2 q = some (true, eI 17 f) := by obtain ⟨v9, n9, m9, -, -, -, -, -, hf9⟩ := id hq; rw [hf9.2 q (hwq q _ hpq)]; exact hpq
  refine g_iload_n C dX8_joined_10 rfl ?_
  refine g_iload_n C dX8_joined_11 rfl ?_
  refine g_icmp_gt (tgt := 29) C dX8_joined_12 (by decide) (by omega) (by omega) (fun h12 => ?_) (fun h12 => ?_)
  · refine g_aload_n C dX8_joined_29 rfl ?_
    obtain ⟨v30, n30, m30, hS30, hn30, hm30, hv30, ha30, hf30⟩ := hq
    refine t_callV C hT (c_J4_toString_0e30d _ hS30 (by omega)) (RcV.sb C hS30) rfl ml_RX8_113 im_yJ4_toString_0e30d se_RJ4_yJ4_toString_0e30d in_RJ4 co_yJ4_toString_0e30d hd_J4_toString_0e30d rfl ⟨by omega, by omega⟩ rfl (Nat.le_of_ble_eq_true rfl) ⟨by omega, by omega⟩ dX8_joined_30 (fun v30 w30 hp30 => ?_)
    obtain ⟨rfl, hfr30⟩ := hp30
    have hfx := hf30.tr hfr30
    exact g_areturn C (Or.inl ⟨_, rfl⟩) hQ (Or.inr ⟨_, rfl⟩) dX8_joined_33 (by omega) (by omega) ⟨_, rfl, hfx⟩
  · refine g_aload_n C dX8_joined_15 rfl ?_
    refine g_aload_n C dX8_joined_16 rfl ?_
    refine g_iload_n C dX8_joined_17 rfl ?_
    refine g_ialoadN (j) C hpl (by omega) (by omega) dX8_joined_18 ?_
    have hfj := hfp j (by omega)
    obtain ⟨v19, n19, m19, hS19, hn19, hm19, hv19, ha19, hf19⟩ := hq
    refine t_callV C hT (c_J4_append_bf812 _ hS19 (by omega) (by omega) (by omega)) (RcV.sb C hS19) rfl ml_RX8_204 im_yJ4_append_bf812 se_RJ4_yJ4_append_bf812 in_RJ4 co_yJ4_append_bf812 hd_J4_append_bf812 rfl ⟨by omega, by omega⟩ rfl (Nat.le_of_ble_eq_true rfl) ⟨by omega, by omega⟩ dX8_joined_19 (fun v19 w19 hp19 => ?_)
    obtain ⟨rfl, x19⟩ := hp19
    replace hq := SBq.int hn19 hm19 hv19 ha19 hf19 x19
    refine g_pop C dX8_joined_22 rfl ?_
    refine g_iinc C dX8_joined_23 rfl (by decide) rfl ?_
    refine g_goto (tgt := 10) C dX8_joined_26 (by decide) ?_
    refine g_widen (k' := 2 + (j + 1)) (n' := 20 + 900 * (j + 1)) (by omega) (by omega) ?_
    exact ih (j + 1, w19) ⟨by dsimp only; omega, (show 11 * (j + 1) = 11 * j + 11 by omega) ▸ hq⟩ (by dsimp only; omega)
set_option maxHeartbeats 4000000 in
set_option maxRecDepth 100000 in
theorem c_X8_text (l : Launch) {K : KC} {E : GE} {w : Wd} {a : Nat} {z rx : Int} (ra : RowAt w a z 13) (hrx : 2 ≤ rx ∧ rx ≤ 16) : St K E l yX8_text cX8_text 4 (some (.object "java/lang/String")) 6 (60) (2000) [.ref a, iI rx] w (fun r' w' => ∃ s : Nat, r' = some (.ref s) ∧ Fr w w') := by
  refine st_intro [some (.ref a), some (iI rx), none, none] rfl (Nat.le_of_ble_eq_true rfl) pn_X8 ?_
  intro X C hT hRm hl hnm hQ
  obtain ⟨hRf, hRl, hRc, hRs⟩ := hRm
  refine g_wf (fun hwf => ?_)
  obtain ⟨len, f, e0, b0, d0⟩ := id ra
  have l1 := b0.n1
  have s0 := b0.s
  refine g_aload_n C dX8_text_0 rfl ?_
  refine g_iconst C dX8_text_1 ?_
  refine g_ialoadN (0) C e0 (by omega) (by omega) dX8_text_2 ?_
  refine g_if_ne (tgt := 9) C dX8_text_3 (by decide) (by omega) (fun h3 => ?_) (fun h3 => ?_)
  · refine g_aload_n C dX8_text_9 rfl ?_
    refine g_cloneI C e0 ml_RX8_59 (by omega) (by omega) (Nat.le_of_ble_eq_true rfl) (by omega) dX8_text_10 ?_
    refine g_castI C wpush_s kl_RX8_19 dX8_text_13 ?_
    refine g_astore_n C dX8_text_16 (by decide) rfl ?_
    refine g_wf (fun hwq => ?_)
    refine g_new (ci := 1) C rfl inTJ4 tyJ4 tyJ4_ok kl_RX8_86 ib_RJ4 in_RJ4 (fs := [.null, iI 0, iI 0, iI 0]) (by intro j hj; repeat (first | rfl | (cases j; rfl) | (rename_i j; cases j; rfl) | omega)) (by omega) dX8_text_17 ?_
    refine g_dup C dX8_text_20 rfl ?_
    refine t_callI C hT (c_J4_init_da8c8 _ wpush_s) ml_RX8_88 im_yJ4_init_da8c8 in_RJ4 co_yJ4_init_da8c8 rfl hd_J4_init_da8c8 rfl ⟨by omega, by omega⟩ rfl (Nat.le_of_ble_eq_true rfl) ⟨by omega, by omega⟩ dX8_text_21 (fun v21 w21 hp21 => ?_)
    obtain ⟨rfl, v0, hS0, hv0, hf0⟩ := hp21
    have hv0 : w.1 + 1 + 1 ≤ v0 := hv0
    have hff : Fr w w21 := FrY.fr (((Fr.rf w).push _).push _) hf0 (by show w.1 ≤ w.1 + 1; omega) (by show w.1 ≤ w.1 + 1; omega)
    have hb0 : w21.2 w.1 = some (true, eI len f) := by
      rw [hf0.2 w.1 (by show w.1 < w.1 + 1 + 1; omega) (by show w.1 ≠ w.1 + 1; omega) (by show w.1 ≠ w.1 + 1; omega), wpush_n (by show w.1 ≠ w.1 + 1; omega)]
      exact wpush_s
    have hb2 : mg f len < 2 ^ (30 * (len - 1)) := mg_lt2 b0.d
    refine g_astore_n C dX8_text_24 (by decide) rfl ?_
    refine g_widen (k' := 3 + 0) (n' := len + 20 + 0) (by omega) (by omega) ?_
    refine g_loop (σ := Wd × (Nat → Int) × Nat × Nat × Nat × Nat × Nat) (fun t => t.1.2 w.1 = some (true, eI len t.2.1) ∧ DG t.2.1 len ∧ SBw t.1 (w.1 + 1) t.2.2.1 t.2.2.2.1 t.2.2.2.2.1 ∧ w.1 + 1 < t.2.2.1 ∧ Fr w t.1 ∧ 18 * t.2.2.2.2.2.1 + 16 ≤ t.2.2.2.2.1 ∧ t.2.2.2.2.2.2 + 32 ≤ 2 * t.2.2.2.2.1 ∧ t.2.2.2.2.1 ≤ 2 * t.2.2.2.1 + 16 ∧ t.2.2.2.1 ≤ 30 * (len - 1) ∧ mg t.2.1 len < 2 ^ (30 * (len - 1) - t.2.2.2.1)) (fun t => G E X 4 25 [some (.ref a), some (iI rx), some (.ref w.1), some (.ref (w.1 + 1))] [] t.1 (3 + t.2.2.2.2.2.1) (len + 20 + t.2.2.2.2.2.2)) (fun t => (mg t.2.1 len).toNat) ?_ (w21, f, v0, 0, 16, 0, 0) ⟨hb0, b0.d, hS0, by dsimp only; omega, hff, by dsimp only; omega, by dsimp only; omega, by dsimp only; omega, by dsimp only; omega, hb2⟩
    rintro ⟨u, g, v, n, mm, c, sl⟩ hqq ih
    obtain ⟨hbu, hdg, hS, hvv, hfu, hc1, hc2, hc3, hnn, hmg⟩ := hqq
    dsimp only at hbu hdg hS hvv hfu hc1 hc2 hc3 hnn hmg ⊢
    have hnm : n ≤ mm := by obtain ⟨_, _, _, _, _, _, q⟩ := id hS; exact q
    have hg0 := mg_nonneg hdg
    refine g_aload_n C dX8_text_25 rfl ?_
    refine g_wf (fun hwu => ?_)
    refine g_callS C (c_X8_isNone _ hbu ⟨by omega, by omega⟩ hdg) ml_RX8_89 sm_yX8_isNone in_RX8 co_yX8_isNone hd_X8_isNone rfl ⟨by omega, by omega⟩ rfl (Nat.le_of_ble_eq_true rfl) ⟨by omega, by omega⟩ dX8_text_26 (fun v26 w26 hp26 => ?_)
    obtain ⟨⟨y26, rfl, hy26⟩, hw26⟩ := hp26
    subst w26
    refine g_if_ne (tgt := 50) C dX8_text_29 (by decide) (by omega) (fun h29 => ?_) (fun h29 => ?_)
    · have J63 : ∀ (u2 : Wd) (v2 n2 m2 c2 s2 : Nat), SBw u2 (w.1 + 1) v2 n2 m2 → w.1 ≤ v2 → Fr w u2 → m2 ≤ 2 * n2 + 16 → n2 ≤ 30 * (len - 1) + 1 → 18 * c2 + 16 ≤ m2 → s2 + 32 ≤ 2 * m2 → G E X 4 63 [some (.ref a), some (iI rx), some (.ref w.1), some (.ref (w.1 + 1))] [] u2 (3 + c2) (len + 20 + s2) := by
        intro u2 v2 n2 m2 c2 s2 hS2 hv2 hf2 hm2 hn2 hc2' hs2
        refine g_aload_n C dX8_text_63 rfl ?_
        refine t_callV C hT (c_J4_reverse_43fcb _ hS2 (by omega)) (RcV.sb C hS2) rfl ml_RX8_109 im_yJ4_reverse_43fcb se_RJ4_yJ4_reverse_43fcb in_RJ4 co_yJ4_reverse_43fcb hd_J4_reverse_43fcb rfl ⟨by omega, by omega⟩ rfl (Nat.le_of_ble_eq_true rfl) ⟨by omega, by omega⟩ dX8_text_64 (fun v64 w64 hp64 => ?_)
        obtain ⟨rfl, v64, hS64, hv64, hf64⟩ := hp64
        have hff2 := FrY.fr hf2 hf64 (by omega) hv2
        refine t_callV C hT (c_J4_toString_0e30d _ hS64 (by omega)) (RcV.sb C hS64) rfl ml_RX8_113 im_yJ4_toString_0e30d se_RJ4_yJ4_toString_0e30d in_RJ4 co_yJ4_toString_0e30d hd_J4_toString_0e30d rfl ⟨by omega, by omega⟩ rfl (Nat.le_of_ble_eq_true rfl) ⟨by omega, by omega⟩ dX8_text_67 (fun v67 w67 hp67 => ?_)
        obtain ⟨rfl, hf67⟩ := hp67
        exact g_areturn C (Or.inl ⟨_, rfl⟩) hQ (Or.inr ⟨_, rfl⟩) dX8_text_70 (by omega) (by omega) ⟨_, rfl, hff2.tr hf67⟩
      obtain ⟨gr1, gr2, gr3⟩ := grow hnm hc1 hc2 hc3
      refine g_aload_n C dX8_text_50 rfl ?_
      refine g_iconst C dX8_text_51 ?_
      refine g_ialoadN (0) C (by rw [hfu.2 a (hwf a _ e0)]; exact e0) (by omega) (by omega) dX8_text_52 ?_
      refine g_if_ge (tgt := 63) C dX8_text_53 (by decide) (by omega) (fun h53 => ?_) (fun h53 => ?_)
      · first
        | exact J63 u v n mm c sl hS (by omega) hfu (by omega) (by omega) (by omega) (by omega)
        | exact g_widen (by omega) (by omega) (J63 w59 v59 (n + 1) (capG (n + 1) mm) (c + gC (n + 1) mm) (sl + gS (n + 1) mm) hS59 (by omega) (FrY.fr hfu hf59 (by omega) (by omega)) gr3 (by omega) gr1 gr2)
      · refine g_aload_n C dX8_text_56 rfl ?_
        refine g_bipush C dX8_text_57 (by decide) ?_
        refine t_callV C hT (c_J4_append_cf468 _ hS (x := 45) (by omega) (by omega) (by omega)) (RcV.sb C hS) rfl ml_RX8_105 im_yJ4_append_cf468 se_RJ4_yJ4_append_cf468 in_RJ4 co_yJ4_append_cf468 hd_J4_append_cf468 rfl ⟨by omega, by omega⟩ rfl (Nat.le_of_ble_eq_true rfl) ⟨by omega, by omega⟩ dX8_text_59 (fun v59 w59 hp59 => ?_)
        obtain ⟨rfl, v59, hS59, hv59, hf59⟩ := hp59
        have hfu1 := hfu.1
        refine g_pop C dX8_text_62 rfl ?_
        first
        | exact J63 u v n mm c sl hS (by omega) hfu (by omega) (by omega) (by omega) (by omega)
        | exact g_widen (by omega) (by omega) (J63 w59 v59 (n + 1) (capG (n + 1) mm) (c + gC (n + 1) mm) (sl + gS (n + 1) mm) hS59 (by omega) (FrY.fr hfu hf59 (by omega) (by omega)) gr3 (by omega) gr1 gr2)
    · refine g_aload_n C dX8_text_32 rfl ?_
      refine g_ldcS C hT 3 rfl dX8_text_33 ?_
      refine g_aload_n C dX8_text_35 rfl ?_
      refine g_iload_n C dX8_text_36 rfl ?_
      refine g_callS C (c_X8_divide _ (d := rx) hbu ⟨by omega, by omega⟩ hdg (by omega)) ml_RX8_95 sm_yX8_divide in_RX8 co_yX8_divide hd_X8_divide rfl ⟨by omega, by omega⟩ rfl (Nat.le_of_ble_eq_true rfl) ⟨by omega, by omega⟩ dX8_text_37 (fun v37 w37 hp37 => ?_)
      obtain ⟨x, g2, rfl, rfl, hdg2, hg20, hx0, hx1, hxe⟩ := hp37
      obtain ⟨xn, rfl⟩ := Int.eq_ofNat_of_zero_le hx0
      have hge2 := mg_nonneg hdg2
      have h2 : mg g2 len * 2 ≤ mg g len := by
        have := Int.mul_le_mul_of_nonneg_left (show (2 : Int) ≤ rx by omega) hge2
        omega
      have hn1 : n < 30 * (len - 1) := by
        rcases Nat.lt_or_ge n (30 * (len - 1)) with q | q
        · exact q
        · rw [show 30 * (len - 1) - n = 0 by omega, Int.pow_zero] at hmg
          omega
      have hmg2 : mg g2 len < 2 ^ (30 * (len - 1) - (n + 1)) := by
        have e9 : (2 : Int) ^ (30 * (len - 1) - n) = 2 ^ (30 * (len - 1) - (n + 1)) * 2 := by rw [← Int.pow_succ]; congr 1; omega
        rw [e9] at hmg
        omega
      have hS2 : SBw (wset u w.1 (true, eI len g2)) (w.1 + 1) v n mm := by
        obtain ⟨mb, fb, k1, k2, k3, k4, k5⟩ := hS
        exact ⟨mb, fb, by rw [wset_n (by omega)]; exact k1, by rw [wset_n (by omega)]; exact k2, k3, k4, k5⟩
      obtain ⟨gr1, gr2, gr3⟩ := grow hnm hc1 hc2 hc3
      have hlen3 : (kBy 3).length = 16 := rfl
      refine t_callV C hT (c_J0_charAt_5068e _ (i := 3) (by omega) (p := xn) (by omega)) (RcV.k hT (by omega)) rfl ml_RX8_99 im_yJ0_charAt_5068e se_RJ0_yJ0_charAt_5068e in_RJ0 co_yJ0_charAt_5068e hd_J0_charAt_5068e rfl ⟨by omega, by omega⟩ rfl (Nat.le_of_ble_eq_true rfl) ⟨by omega, by omega⟩ dX8_text_40 (fun v40 w40 hp40 => ?_)
      obtain ⟨⟨y40, rfl, y400, y401⟩, hw40⟩ := hp40
      subst w40
      refine t_callV C hT (c_J4_append_cf468 _ hS2 (x := y40) (by omega) (by omega) (by omega)) (RcV.sb C hS2) rfl ml_RX8_105 im_yJ4_append_cf468 se_RJ4_yJ4_append_cf468 in_RJ4 co_yJ4_append_cf468 hd_J4_append_cf468 rfl ⟨by omega, by omega⟩ rfl (Nat.le_of_ble_eq_true rfl) ⟨by omega, by omega⟩ dX8_text_43 (fun v43 w43 hp43 => ?_)
      obtain ⟨rfl, v43, hS43, hv43, hf43⟩ := hp43
      have hu1 : (wset u w.1 (true, eI len g2)).1 = u.1 := rfl
      have hfu1 := hfu.1
      have hlt : w.1 < u.1 := by have := (show wF u from hwu); exact this _ _ hbu
      have hlt2 : w.1 + 1 < u.1 := by obtain ⟨_, _, k1, _⟩ := hS; exact hwu _ _ k1
      refine g_pop C dX8_text_46 rfl ?_
      refine g_goto (tgt := 25) C dX8_text_47 (by decide) ?_
      refine g_widen (k' := 3 + (c + gC (n + 1) mm)) (n' := len + 20 + (sl + gS (n + 1) mm)) (by omega) (by omega) ?_
      exact ih (w43, g2, v43, n + 1, capG (n + 1) mm, c + gC (n + 1) mm, sl + gS (n + 1) mm) ⟨by rw [hf43.2 w.1 (by rw [hu1]; exact hlt) (by omega) (by omega)]; exact wset_s, hdg2, hS43, by dsimp only; omega, FrY.fr (hfu.set (Nat.le_refl _) _) hf43 (by omega) (by omega), gr1, gr2, gr3, by dsimp only; omega, hmg2⟩ (by dsimp only; omega)
  · refine g_ldcS C hT 2 rfl dX8_text_6 ?_
    exact g_areturn C (Or.inl ⟨_, rfl⟩) hQ (Or.inr ⟨_, rfl⟩) dX8_text_8 (by omega) (by omega) ⟨_, rfl, Fr.rf w⟩
set_option maxHeartbeats 4000000 in
set_option maxRecDepth 100000 in
theorem c_X8_decimals (l : Launch) {K : KC} {E : GE} {w : Wd} {v n : Int} (h_v : -2147483648 ≤ v ∧ v < 2147483648) (h_n : -2147483648 ≤ n ∧ n < 2147483648) {τ : Nat → Nat} {m : Nat} {A : MA} {th : Int} {ba st pb le ri : Nat → Int} {sp : Nat → Nat → Int} {ct : Nat → Int} (hM : MSx τ w m A th ba st pb le ri sp ct) (hB : ∀ i, i < 3 → GB (ba i)) (hS : ∀ i, i < 3 → 0 ≤ st i ∧ st i ≤ 24) : St K E l yX8_decimals cX8_decimals 3 (some (.object "java/lang/String")) 7 (441) (17810) [.ref m, iI v, iI n] w (fun r' w' => ∃ (t : Int) (s : Nat), r' = some (.ref s) ∧ MSx τ w' m A (t) (ba) (st) (pb) (le) (ri) (sp) (ct) ∧ Keep τ w w' ∧ 0 ≤ t ∧ t ≤ 2) := by
  refine st_intro [some (.ref m), some (iI v), some (iI n)] rfl (Nat.le_of_ble_eq_true rfl) pn_X8 ?_
  intro X C hT hRm hl hnm hQ
  obtain ⟨hRf, hRl, hRc, hRs⟩ := hRm
  refine g_wf (fun hwf => ?_)
  refine g_aload_n C dX8_decimals_0 rfl ?_
  refine g_iload_n C dX8_decimals_1 rfl ?_
  refine g_callS C (c_X8_isNo _ (v := v) h_v) ml_RX8_145 sm_yX8_isNo in_RX8 co_yX8_isNo hd_X8_isNo rfl ⟨by omega, by omega⟩ rfl (Nat.le_of_ble_eq_true rfl) ⟨by omega, by omega⟩ dX8_decimals_2 (fun v2 w2 hp2 => ?_)
  obtain ⟨rfl, hw2⟩ := hp2
  subst w2
  refine g_iconst C dX8_decimals_5 ?_
  refine g_callV C (c_X8_start _ hM (y := bI (¬ (0 ≤ v ∧ v ≤ 2))) (wh := 1) (bI_01 _) (by omega)) (ci := 10) rfl hM.o rfl ml_RX8_149 im_yX8_start se_RX8_yX8_start in_RX8 co_yX8_start hd_X8_start rfl ⟨by omega, by omega⟩ rfl (Nat.le_of_ble_eq_true rfl) ⟨by omega, by omega⟩ dX8_decimals_6 (fun v6 w6 hp6 => ?_)
  obtain ⟨t6, rfl, ht6, hM6, hK6⟩ := hp6
  have hy6 : (bI (¬ (0 ≤ v ∧ v ≤ 2))) = 0 ∨ (bI (¬ (0 ≤ v ∧ v ≤ 2))) = 1 := (bI_01 _)
  refine g_if_ne (tgt := 35) C dX8_decimals_9 (by decide) (bI_r _) (fun h9 => ?_) (fun h9 => ?_)
  · refine g_ldcS C hT 0 rfl dX8_decimals_35 ?_
    refine g_goto (tgt := 49) C dX8_decimals_37 (by decide) ?_
    exact g_areturn C (Or.inl ⟨_, rfl⟩) hQ (Or.inr ⟨_, rfl⟩) dX8_decimals_49 (by omega) (by omega) (by
      first
      | exact ⟨t, _, rfl, hM7.ex (x42.tr hxf46), hK67.tr (Keep.ex (x42.tr hxf46)), by omega, by omega⟩
      | exact ⟨t, _, rfl, hM7, hK67, by omega, by omega⟩
      | exact ⟨t6, _, rfl, hM6, hK6, by omega, by omega⟩)
  · refine g_aload_n C dX8_decimals_12 rfl ?_
    refine g_iload_n C dX8_decimals_13 rfl ?_
    refine g_iconst C dX8_decimals_14 ?_
    refine g_bipush C dX8_decimals_15 (by decide) ?_
    refine g_callS C (c_X8_isIn _ (v := n) (a := 0) (b := 16) h_n (by omega) (by omega)) ml_RX8_49 sm_yX8_isIn in_RX8 co_yX8_isIn hd_X8_isIn rfl ⟨by omega, by omega⟩ rfl (Nat.le_of_ble_eq_true rfl) ⟨by omega, by omega⟩ dX8_decimals_17 (fun v17 w17 hp17 => ?_)
    obtain ⟨rfl, hw17⟩ := hp17
    subst w17
    have J28 : ∀ y : Int, (y = 0 ∧ (0 ≤ n ∧ n ≤ 16) ∨ y = 1 ∧ ¬ (0 ≤ n ∧ n ≤ 16)) → G E X 3 28 [some (.ref m), some (iI v), some (iI n)] [iI y, .ref m] w6 0 0 := by
      intro y hy
      have hwk : 0 ≤ v ∧ v ≤ 2 := Classical.not_not.mp (bI_0 (Classical.not_not.mp h9))
      refine g_iconst C dX8_decimals_28 ?_
      refine g_callV C (c_X8_refuse _ hM6 (y := y) (wh := 2) (by omega) (by omega) (by omega)) (ci := 10) rfl hM6.o rfl ml_RX8_45 im_yX8_refuse se_RX8_yX8_refuse in_RX8 co_yX8_refuse hd_X8_refuse rfl ⟨by omega, by omega⟩ rfl (Nat.le_of_ble_eq_true rfl) ⟨by omega, by omega⟩ dX8_decimals_29 (fun v29 w29 hp29 => ?_)
      obtain ⟨t, rfl, ht, hM7, hK7⟩ := hp29
      have hy7 : (y) = 0 ∨ (y) = 1 := (by omega)
      have hK67 := hK6.tr hK7
      refine g_if_eq (tgt := 40) C dX8_decimals_32 (by decide) (bI_r _) (fun h32 => ?_) (fun h32 => ?_)
      · have htz : ¬ (0 < t) := bI_0 h32
        obtain ⟨V, rfl⟩ := Int.eq_ofNat_of_zero_le hwk.1
        have hg := hB V (by omega)
        obtain ⟨r, hr⟩ := RT_ex hg
        have hsv := hS V (by omega)
        obtain ⟨N, rfl⟩ := Int.eq_ofNat_of_zero_le (show 0 ≤ n by omega)
        refine g_aload_n C dX8_decimals_40 rfl ?_
        refine g_iload_n C dX8_decimals_41 rfl ?_
        refine g_callV C (c_X8_places _ hM7 (i := V) (r := r) (by omega) hg hr hsv) (ci := 10) rfl hM7.o rfl ml_RX8_207 im_yX8_places se_RX8_yX8_places in_RX8 co_yX8_places hd_X8_places rfl ⟨by omega, by omega⟩ rfl (Nat.le_of_ble_eq_true rfl) ⟨by omega, by omega⟩ dX8_decimals_42 (fun v42 w42 hp42 => ?_)
        obtain ⟨q42, f42, rfl, h42, hf42, hr42, x42⟩ := hp42
        refine g_iload_n C dX8_decimals_45 rfl ?_
        refine g_wf (fun hwf46 => ?_)
        refine t_callS C hT (c_X8_joined _ (N := N) h42 hr42 (by omega)) ml_RX8_210 sm_yX8_joined in_RX8 co_yX8_joined hd_X8_joined rfl ⟨by omega, by omega⟩ rfl (Nat.le_of_ble_eq_true rfl) ⟨by omega, by omega⟩ dX8_decimals_46 (fun v46 w46 hp46 => ?_)
        obtain ⟨s46, rfl, hfr46⟩ := hp46
        have hxf46 := hfr46.ex hwf46
        exact g_areturn C (Or.inl ⟨_, rfl⟩) hQ (Or.inr ⟨_, rfl⟩) dX8_decimals_49 (by omega) (by omega) (by
          first
          | exact ⟨t, _, rfl, hM7.ex (x42.tr hxf46), hK67.tr (Keep.ex (x42.tr hxf46)), by omega, by omega⟩
          | exact ⟨t, _, rfl, hM7, hK67, by omega, by omega⟩
          | exact ⟨t6, _, rfl, hM6, hK6, by omega, by omega⟩)
      · refine g_ldcS C hT 0 rfl dX8_decimals_35 ?_
        refine g_goto (tgt := 49) C dX8_decimals_37 (by decide) ?_
        exact g_areturn C (Or.inl ⟨_, rfl⟩) hQ (Or.inr ⟨_, rfl⟩) dX8_decimals_49 (by omega) (by omega) (by
          first
          | exact ⟨t, _, rfl, hM7.ex (x42.tr hxf46), hK67.tr (Keep.ex (x42.tr hxf46)), by omega, by omega⟩
          | exact ⟨t, _, rfl, hM7, hK67, by omega, by omega⟩
          | exact ⟨t6, _, rfl, hM6, hK6, by omega, by omega⟩)
    refine g_if_ne (tgt := 27) C dX8_decimals_20 (by decide) (bI_r _) (fun h20 => ?_) (fun h20 => ?_)
    · refine g_iconst C dX8_decimals_27 ?_
      exact J28 _ (by first | exact Or.inl ⟨rfl, bI_1 (by omega)⟩ | exact Or.inr ⟨rfl, bI_0 (by omega)⟩)
    · refine g_iconst C dX8_decimals_23 ?_
      refine g_goto (tgt := 28) C dX8_decimals_24 (by decide) ?_
      exact J28 _ (by first | exact Or.inl ⟨rfl, bI_1 (by omega)⟩ | exact Or.inr ⟨rfl, bI_0 (by omega)⟩)
set_option maxHeartbeats 4000000 in
set_option maxRecDepth 100000 in
theorem c_X8_rootText (l : Launch) {K : KC} {E : GE} {w : Wd} {b n : Int} (h_b : -2147483648 ≤ b ∧ b < 2147483648) (h_n : -2147483648 ≤ n ∧ n < 2147483648) {τ : Nat → Nat} {m : Nat} {A : MA} {th : Int} {ba st pb le ri : Nat → Int} {sp : Nat → Nat → Int} {ct : Nat → Int} (hM : MSx τ w m A th ba st pb le ri sp ct) : St K E l yX8_rootText cX8_rootText 3 (some (.object "java/lang/String")) 7 (22) (15620) [.ref m, iI b, iI n] w (fun r' w' => ∃ (t : Int) (s : Nat), r' = some (.ref s) ∧ MSx τ w' m A (t) (ba) (st) (pb) (le) (ri) (sp) (ct) ∧ Keep τ w w' ∧ 0 ≤ t ∧ t ≤ 2) := by
  refine st_intro [some (.ref m), some (iI b), some (iI n)] rfl (Nat.le_of_ble_eq_true rfl) pn_X8 ?_
  intro X C hT hRm hl hnm hQ
  obtain ⟨hRf, hRl, hRc, hRs⟩ := hRm
  refine g_wf (fun hwf => ?_)
  refine g_aload_n C dX8_rootText_0 rfl ?_
  refine g_iload_n C dX8_rootText_1 rfl ?_
  refine g_iconst C dX8_rootText_2 ?_
  refine g_bipush C dX8_rootText_3 (by decide) ?_
  refine g_callS C (c_X8_isIn _ (v := b) (a := 1) (b := 99) h_b (by omega) (by omega)) ml_RX8_49 sm_yX8_isIn in_RX8 co_yX8_isIn hd_X8_isIn rfl ⟨by omega, by omega⟩ rfl (Nat.le_of_ble_eq_true rfl) ⟨by omega, by omega⟩ dX8_rootText_5 (fun v5 w5 hp5 => ?_)
  obtain ⟨rfl, hw5⟩ := hp5
  subst w5
  have J26 : ∀ y : Int, (y = 0 ∧ (1 ≤ b ∧ b ≤ 99) ∧ (0 ≤ n ∧ n ≤ 16) ∨ y = 1) → G E X 3 26 [some (.ref m), some (iI b), some (iI n)] [iI y, .ref m] w 0 0 := by
    intro y hy
    refine g_iconst C dX8_rootText_26 ?_
    refine g_callV C (c_X8_start _ hM (y := y) (wh := 1) (by omega) (by omega)) (ci := 10) rfl hM.o rfl ml_RX8_149 im_yX8_start se_RX8_yX8_start in_RX8 co_yX8_start hd_X8_start rfl ⟨by omega, by omega⟩ rfl (Nat.le_of_ble_eq_true rfl) ⟨by omega, by omega⟩ dX8_rootText_27 (fun v27 w27 hp27 => ?_)
    obtain ⟨t6, rfl, ht6, hM6, hK6⟩ := hp27
    have hy6 : (y) = 0 ∨ (y) = 1 := (by omega)
    refine g_if_eq (tgt := 38) C dX8_rootText_30 (by decide) (by omega) (fun h30 => ?_) (fun h30 => ?_)
    · obtain ⟨N, rfl⟩ := Int.eq_ofNat_of_zero_le (show 0 ≤ n by omega)
      refine g_wf (fun hwf38 => ?_)
      refine g_iload_n C dX8_rootText_38 rfl ?_
      refine g_callS C (c_X8_rootPlaces _ (b := b) (by omega)) ml_RX8_217 sm_yX8_rootPlaces in_RX8 co_yX8_rootPlaces hd_X8_rootPlaces rfl ⟨by omega, by omega⟩ rfl (Nat.le_of_ble_eq_true rfl) ⟨by omega, by omega⟩ dX8_rootText_39 (fun v39 w39 hp39 => ?_)
      obtain ⟨f39, rfl, rfl, hf39⟩ := hp39
      have x39 := Ex.push hwf38 (true, eI 17 f39)
      refine g_iload_n C dX8_rootText_42 rfl ?_
      refine g_wf (fun hwf43 => ?_)
      refine t_callS C hT (c_X8_joined _ (N := N) wpush_s (fun j hj => by have := hf39 j hj; omega) (by omega)) ml_RX8_210 sm_yX8_joined in_RX8 co_yX8_joined hd_X8_joined rfl ⟨by omega, by omega⟩ rfl (Nat.le_of_ble_eq_true rfl) ⟨by omega, by omega⟩ dX8_rootText_43 (fun v43 w43 hp43 => ?_)
      obtain ⟨s43, rfl, hfr43⟩ := hp43
      have hxf43 := hfr43.ex hwf43
      exact g_areturn C (Or.inl ⟨_, rfl⟩) hQ (Or.inr ⟨_, rfl⟩) dX8_rootText_46 (by omega) (by omega) (by
        first
        | exact ⟨t6, _, rfl, hM6.ex (x39.tr hxf43), hK6.tr (Keep.ex (x39.tr hxf43)), by omega, by omega⟩
        | exact ⟨t6, _, rfl, hM6, hK6, by omega, by omega⟩)
    · refine g_ldcS C hT 0 rfl dX8_rootText_33 ?_
      refine g_goto (tgt := 46) C dX8_rootText_35 (by decide) ?_
      exact g_areturn C (Or.inl ⟨_, rfl⟩) hQ (Or.inr ⟨_, rfl⟩) dX8_rootText_46 (by omega) (by omega) (by
        first
        | exact ⟨t6, _, rfl, hM6.ex (x39.tr hxf43), hK6.tr (Keep.ex (x39.tr hxf43)), by omega, by omega⟩
        | exact ⟨t6, _, rfl, hM6, hK6, by omega, by omega⟩)
  refine g_if_eq (tgt := 21) C dX8_rootText_8 (by decide) (bI_r _) (fun h8 => ?_) (fun h8 => ?_)
  · refine g_iconst C dX8_rootText_21 ?_
    refine g_goto (tgt := 26) C dX8_rootText_22 (by decide) ?_
    exact J26 _ (by first | exact Or.inr rfl | exact Or.inl ⟨rfl, bI_1 (by omega), bI_1 (by omega)⟩)
  · refine g_iload_n C dX8_rootText_11 rfl ?_
    refine g_iconst C dX8_rootText_12 ?_
    refine g_bipush C dX8_rootText_13 (by decide) ?_
    refine g_callS C (c_X8_isIn _ (v := n) (a := 0) (b := 16) h_n (by omega) (by omega)) ml_RX8_49 sm_yX8_isIn in_RX8 co_yX8_isIn hd_X8_isIn rfl ⟨by omega, by omega⟩ rfl (Nat.le_of_ble_eq_true rfl) ⟨by omega, by omega⟩ dX8_rootText_15 (fun v15 w15 hp15 => ?_)
    obtain ⟨rfl, hw15⟩ := hp15
    subst w15
    refine g_if_ne (tgt := 25) C dX8_rootText_18 (by decide) (bI_r _) (fun h18 => ?_) (fun h18 => ?_)
    · refine g_iconst C dX8_rootText_25 ?_
      exact J26 _ (by first | exact Or.inr rfl | exact Or.inl ⟨rfl, bI_1 (by omega), bI_1 (by omega)⟩)
    · refine g_iconst C dX8_rootText_21 ?_
      refine g_goto (tgt := 26) C dX8_rootText_22 (by decide) ?_
      exact J26 _ (by first | exact Or.inr rfl | exact Or.inl ⟨rfl, bI_1 (by omega), bI_1 (by omega)⟩)
set_option maxHeartbeats 4000000 in
set_option maxRecDepth 100000 in
theorem c_X8_walkText (l : Launch) {K : KC} {E : GE} {w : Wd} {v c n : Int} (h_v : -2147483648 ≤ v ∧ v < 2147483648) (h_c : -2147483648 ≤ c ∧ c < 2147483648) (h_n : -2147483648 ≤ n ∧ n < 2147483648) {τ : Nat → Nat} {m : Nat} {A : MA} {th : Int} {ba st pb le ri : Nat → Int} {sp : Nat → Nat → Int} {ct : Nat → Int} (hM : MSx τ w m A th ba st pb le ri sp ct) (hB : ∀ i, i < 3 → GB (ba i)) (hS : ∀ i, i < 3 → 0 ≤ st i ∧ st i ≤ 24) : St K E l yX8_walkText cX8_walkText 4 (some (.object "java/lang/String")) 7 (70) (2050) [.ref m, iI v, iI c, iI n] w (fun r' w' => ∃ (t : Int) (s : Nat), r' = some (.ref s) ∧ MSx τ w' m A (t) (ba) (st) (pb) (le) (ri) (sp) (ct) ∧ Keep τ w w' ∧ 0 ≤ t ∧ t ≤ 2) := by
  refine st_intro [some (.ref m), some (iI v), some (iI c), some (iI n)] rfl (Nat.le_of_ble_eq_true rfl) pn_X8 ?_
  intro X C hT hRm hl hnm hQ
  obtain ⟨hRf, hRl, hRc, hRs⟩ := hRm
  refine g_wf (fun hwf => ?_)
  refine g_aload_n C dX8_walkText_0 rfl ?_
  refine g_iload_n C dX8_walkText_1 rfl ?_
  refine g_callS C (c_X8_isNo _ (v := v) h_v) ml_RX8_145 sm_yX8_isNo in_RX8 co_yX8_isNo hd_X8_isNo rfl ⟨by omega, by omega⟩ rfl (Nat.le_of_ble_eq_true rfl) ⟨by omega, by omega⟩ dX8_walkText_2 (fun v2 w2 hp2 => ?_)
  obtain ⟨rfl, hw2⟩ := hp2
  subst w2
  refine g_iconst C dX8_walkText_5 ?_
  refine g_callV C (c_X8_start _ hM (y := bI (¬ (0 ≤ v ∧ v ≤ 2))) (wh := 1) (bI_01 _) (by omega)) (ci := 10) rfl hM.o rfl ml_RX8_149 im_yX8_start se_RX8_yX8_start in_RX8 co_yX8_start hd_X8_start rfl ⟨by omega, by omega⟩ rfl (Nat.le_of_ble_eq_true rfl) ⟨by omega, by omega⟩ dX8_walkText_6 (fun v6 w6 hp6 => ?_)
  obtain ⟨t6, rfl, ht6, hM6, hK6⟩ := hp6
  have hy6 : (bI (¬ (0 ≤ v ∧ v ≤ 2))) = 0 ∨ (bI (¬ (0 ≤ v ∧ v ≤ 2))) = 1 := (bI_01 _)
  refine g_if_ne (tgt := 44) C dX8_walkText_9 (by decide) (bI_r _) (fun h9 => ?_) (fun h9 => ?_)
  · refine g_ldcS C hT 0 rfl dX8_walkText_44 ?_
    exact g_areturn C (Or.inl ⟨_, rfl⟩) hQ (Or.inr ⟨_, rfl⟩) dX8_walkText_46 (by omega) (by omega) (by
      first
      | exact ⟨t, _, rfl, hM7, hK67, by omega, by omega⟩
      | exact ⟨t6, _, rfl, hM6, hK6, by omega, by omega⟩)
  · refine g_aload_n C dX8_walkText_12 rfl ?_
    refine g_iload_n C dX8_walkText_13 rfl ?_
    refine g_iconst C dX8_walkText_14 ?_
    refine g_iconst C dX8_walkText_15 ?_
    refine g_callS C (c_X8_isIn _ (v := c) (a := 0) (b := 3) h_c (by omega) (by omega)) ml_RX8_49 sm_yX8_isIn in_RX8 co_yX8_isIn hd_X8_isIn rfl ⟨by omega, by omega⟩ rfl (Nat.le_of_ble_eq_true rfl) ⟨by omega, by omega⟩ dX8_walkText_16 (fun v16 w16 hp16 => ?_)
    obtain ⟨rfl, hw16⟩ := hp16
    subst w16
    have J37 : ∀ y : Int, (y = 0 ∧ (0 ≤ c ∧ c ≤ 3) ∧ (2 ≤ n ∧ n ≤ 16) ∨ y = 1) → G E X 4 37 [some (.ref m), some (iI v), some (iI c), some (iI n)] [iI y, .ref m] w6 0 0 := by
      intro y hy
      have hwk : 0 ≤ v ∧ v ≤ 2 := Classical.not_not.mp (bI_0 (Classical.not_not.mp h9))
      refine g_iconst C dX8_walkText_37 ?_
      refine g_callV C (c_X8_refuse _ hM6 (y := y) (wh := 2) (by omega) (by omega) (by omega)) (ci := 10) rfl hM6.o rfl ml_RX8_45 im_yX8_refuse se_RX8_yX8_refuse in_RX8 co_yX8_refuse hd_X8_refuse rfl ⟨by omega, by omega⟩ rfl (Nat.le_of_ble_eq_true rfl) ⟨by omega, by omega⟩ dX8_walkText_38 (fun v38 w38 hp38 => ?_)
      obtain ⟨t, rfl, ht, hM7, hK7⟩ := hp38
      have hy7 : (y) = 0 ∨ (y) = 1 := (by omega)
      have hK67 := hK6.tr hK7
      refine g_if_eq (tgt := 47) C dX8_walkText_41 (by decide) (bI_r _) (fun h41 => ?_) (fun h41 => ?_)
      · have htz : ¬ (0 < t) := bI_0 h41
        obtain ⟨V, rfl⟩ := Int.eq_ofNat_of_zero_le hwk.1
        have hg := hB V (by omega)
        obtain ⟨r, hr⟩ := RT_ex hg
        have hsv := hS V (by omega)
        obtain ⟨K, rfl⟩ := Int.eq_ofNat_of_zero_le (show 0 ≤ c by omega)
        refine g_aload_n C dX8_walkText_47 rfl ?_
        refine g_iload_n C dX8_walkText_48 rfl ?_
        refine g_callV C (c_X8_at _ hM7 (i := V) (r := r) (by omega) hg hr hsv) (ci := 10) rfl hM7.o rfl ml_RX8_167 im_yX8_at se_RX8_yX8_at in_RX8 co_yX8_at hd_X8_at rfl ⟨by omega, by omega⟩ rfl (Nat.le_of_ble_eq_true rfl) ⟨by omega, by omega⟩ dX8_walkText_49 (fun v49 w49 hp49 => ?_)
        obtain ⟨q, rfl, hR, x1, hq⟩ := hp49
        obtain ⟨R, a0, a1, a2, a3, hR0, k0, k1, k2, k3, l0, l1, l2, l3, lo0, lo1, lo2, lo3⟩ := id hR
        obtain ⟨aK, zK, kK, lK⟩ : ∃ aK zK, R K = some aK ∧ RowAt w49 aK zK 5 := by
          rcases (show K = 0 ∨ K = 1 ∨ K = 2 ∨ K = 3 by omega) with q | q | q | q <;> subst q
          · exact ⟨_, _, k0, l0⟩
          · exact ⟨_, _, k1, l1⟩
          · exact ⟨_, _, k2, l2⟩
          · exact ⟨_, _, k3, l3⟩
        refine g_iload_n C dX8_walkText_52 rfl ?_
        refine g_aaloadN (K) C rfl rfl hR0 (by omega) (by omega) kK dX8_walkText_53 ?_
        refine g_iload_n C dX8_walkText_54 rfl ?_
        refine g_wf (fun hwf55 => ?_)
        refine t_callS C hT (c_X8_text _ (rx := n) (lK.le (by omega)) (by omega)) ml_RX8_171 sm_yX8_text in_RX8 co_yX8_text hd_X8_text rfl ⟨by omega, by omega⟩ rfl (Nat.le_of_ble_eq_true rfl) ⟨by omega, by omega⟩ dX8_walkText_55 (fun v55 w55 hp55 => ?_)
        obtain ⟨s55, rfl, hfr55⟩ := hp55
        have hxf55 := hfr55.ex hwf55
        exact g_areturn C (Or.inl ⟨_, rfl⟩) hQ (Or.inr ⟨_, rfl⟩) dX8_walkText_58 (by omega) (by omega) (by
          first
          | exact ⟨t, _, rfl, hM7.ex (x1.tr hxf55), hK67.tr (Keep.ex (x1.tr hxf55)), by omega, by omega⟩)
      · refine g_ldcS C hT 0 rfl dX8_walkText_44 ?_
        exact g_areturn C (Or.inl ⟨_, rfl⟩) hQ (Or.inr ⟨_, rfl⟩) dX8_walkText_46 (by omega) (by omega) (by
          first
          | exact ⟨t, _, rfl, hM7, hK67, by omega, by omega⟩
          | exact ⟨t6, _, rfl, hM6, hK6, by omega, by omega⟩)
    refine g_if_eq (tgt := 32) C dX8_walkText_19 (by decide) (bI_r _) (fun h19 => ?_) (fun h19 => ?_)
    · refine g_iconst C dX8_walkText_32 ?_
      refine g_goto (tgt := 37) C dX8_walkText_33 (by decide) ?_
      exact J37 _ (by first | exact Or.inr rfl | exact Or.inl ⟨rfl, bI_1 (by omega), bI_1 (by omega)⟩)
    · refine g_iload_n C dX8_walkText_22 rfl ?_
      refine g_iconst C dX8_walkText_23 ?_
      refine g_bipush C dX8_walkText_24 (by decide) ?_
      refine g_callS C (c_X8_isIn _ (v := n) (a := 2) (b := 16) h_n (by omega) (by omega)) ml_RX8_49 sm_yX8_isIn in_RX8 co_yX8_isIn hd_X8_isIn rfl ⟨by omega, by omega⟩ rfl (Nat.le_of_ble_eq_true rfl) ⟨by omega, by omega⟩ dX8_walkText_26 (fun v26 w26 hp26 => ?_)
      obtain ⟨rfl, hw26⟩ := hp26
      subst w26
      refine g_if_ne (tgt := 36) C dX8_walkText_29 (by decide) (bI_r _) (fun h29 => ?_) (fun h29 => ?_)
      · refine g_iconst C dX8_walkText_36 ?_
        exact J37 _ (by first | exact Or.inr rfl | exact Or.inl ⟨rfl, bI_1 (by omega), bI_1 (by omega)⟩)
      · refine g_iconst C dX8_walkText_32 ?_
        refine g_goto (tgt := 37) C dX8_walkText_33 (by decide) ?_
        exact J37 _ (by first | exact Or.inr rfl | exact Or.inl ⟨rfl, bI_1 (by omega), bI_1 (by omega)⟩)
set_option maxHeartbeats 4000000 in
set_option maxRecDepth 100000 in
theorem c_X8_solution (l : Launch) {K : KC} {E : GE} {w : Wd} {v yy : Int} (h_v : -2147483648 ≤ v ∧ v < 2147483648) (hyy : yy = 0 ∨ yy = 1) {τ : Nat → Nat} {m : Nat} {A : MA} {th : Int} {ba st pb le ri : Nat → Int} {sp : Nat → Nat → Int} {ct : Nat → Int} (hM : MSx τ w m A th ba st pb le ri sp ct) : St K E l yX8_solution cX8_solution 3 (some (.object "java/lang/String")) 7 (90) (2100) [.ref m, iI v, iI yy] w (fun r' w' => ∃ (t : Int) (s : Nat), r' = some (.ref s) ∧ MSx τ w' m A (t) (ba) (st) (pb) (le) (ri) (sp) (ct) ∧ Keep τ w w' ∧ 0 ≤ t ∧ t ≤ 2) := by
  refine st_intro [some (.ref m), some (iI v), some (iI yy)] rfl (Nat.le_of_ble_eq_true rfl) pn_X8 ?_
  intro X C hT hRm hl hnm hQ
  obtain ⟨hRf, hRl, hRc, hRs⟩ := hRm
  refine g_wf (fun hwf => ?_)
  refine g_aload_n C dX8_solution_0 rfl ?_
  refine g_iload_n C dX8_solution_1 rfl ?_
  refine g_callS C (c_X8_isNoBase _ (v := v) h_v) ml_RX8_152 sm_yX8_isNoBase in_RX8 co_yX8_isNoBase hd_X8_isNoBase rfl ⟨by omega, by omega⟩ rfl (Nat.le_of_ble_eq_true rfl) ⟨by omega, by omega⟩ dX8_solution_2 (fun v2 w2 hp2 => ?_)
  obtain ⟨⟨yb, rfl, hyb⟩, hw2⟩ := hp2
  subst w2
  have hyb01 : yb = 0 ∨ yb = 1 := by rcases hyb with q | q <;> omega
  refine g_iconst C dX8_solution_5 ?_
  refine g_callV C (c_X8_start _ hM (y := yb) (wh := 1) (by omega) (by omega)) (ci := 10) rfl hM.o rfl ml_RX8_149 im_yX8_start se_RX8_yX8_start in_RX8 co_yX8_start hd_X8_start rfl ⟨by omega, by omega⟩ rfl (Nat.le_of_ble_eq_true rfl) ⟨by omega, by omega⟩ dX8_solution_6 (fun v6 w6 hp6 => ?_)
  obtain ⟨t6, rfl, ht6, hM6, hK6⟩ := hp6
  have hy6 : (yb) = 0 ∨ (yb) = 1 := (by omega)
  refine g_if_eq (tgt := 17) C dX8_solution_9 (by decide) (by omega) (fun h9 => ?_) (fun h9 => ?_)
  · have hgb : GB v := by
      rcases hyb with q | q
      · exact q.2
      · omega
    obtain ⟨r, hr⟩ := RT_ex hgb
    refine g_iload_n C dX8_solution_17 rfl ?_
    refine g_callS C (c_X8_leastOf _ hgb hr) ml_RX8_225 sm_yX8_leastOf in_RX8 co_yX8_leastOf hd_X8_leastOf rfl ⟨by omega, by omega⟩ rfl (Nat.le_of_ble_eq_true rfl) ⟨by omega, by omega⟩ dX8_solution_18 (fun v18 w18 hp18 => ?_)
    obtain ⟨q, p, rfl, hp', hR, x1, hq⟩ := hp18
    obtain ⟨R, a0, a1, a2, a3, hR0, k0, k1, k2, k3, l0, l1, l2, l3, lo0, lo1, lo2, lo3⟩ := id hR
    have J30 : ∀ (K aK : Nat) (zK : Int), K ≤ 1 → R K = some aK → RowAt w18 aK zK 5 → G E X 3 30 [some (.ref m), some (iI v), some (iI yy)] [iI (K : Int), .ref q] w18 26 96 := by
      intro K aK zK hK kK lK
      refine g_aaloadN (K) C rfl rfl hR0 (by omega) (by omega) kK dX8_solution_30 ?_
      refine g_bipush C dX8_solution_31 (by decide) ?_
      refine g_wf (fun hwf33 => ?_)
      refine t_callS C hT (c_X8_text _ (rx := 10) (lK.le (by omega)) (by omega)) ml_RX8_171 sm_yX8_text in_RX8 co_yX8_text hd_X8_text rfl ⟨by omega, by omega⟩ rfl (Nat.le_of_ble_eq_true rfl) ⟨by omega, by omega⟩ dX8_solution_33 (fun v33 w33 hp33 => ?_)
      obtain ⟨s33, rfl, hfr33⟩ := hp33
      have hxf33 := hfr33.ex hwf33
      exact g_areturn C (Or.inl ⟨_, rfl⟩) hQ (Or.inr ⟨_, rfl⟩) dX8_solution_36 (by omega) (by omega) (by
        first
        | exact ⟨t6, _, rfl, hM6.ex (x1.tr hxf33), hK6.tr (Keep.ex (x1.tr hxf33)), by omega, by omega⟩
        | exact ⟨t6, _, rfl, hM6, hK6, by omega, by omega⟩)
    refine g_iload_n C dX8_solution_21 rfl ?_
    refine g_if_eq (tgt := 29) C dX8_solution_22 (by decide) (by omega) (fun h22 => ?_) (fun h22 => ?_)
    · refine g_iconst C dX8_solution_29 ?_
      first
      | exact g_widen (by omega) (by omega) (J30 0 a0 _ (by omega) k0 l0)
      | exact g_widen (by omega) (by omega) (J30 1 a1 _ (by omega) k1 l1)
    · refine g_iconst C dX8_solution_25 ?_
      refine g_goto (tgt := 30) C dX8_solution_26 (by decide) ?_
      first
      | exact g_widen (by omega) (by omega) (J30 0 a0 _ (by omega) k0 l0)
      | exact g_widen (by omega) (by omega) (J30 1 a1 _ (by omega) k1 l1)
  · refine g_ldcS C hT 0 rfl dX8_solution_12 ?_
    refine g_goto (tgt := 36) C dX8_solution_14 (by decide) ?_
    exact g_areturn C (Or.inl ⟨_, rfl⟩) hQ (Or.inr ⟨_, rfl⟩) dX8_solution_36 (by omega) (by omega) (by
      first
      | exact ⟨t6, _, rfl, hM6.ex (x1.tr hxf33), hK6.tr (Keep.ex (x1.tr hxf33)), by omega, by omega⟩
      | exact ⟨t6, _, rfl, hM6, hK6, by omega, by omega⟩)
set_option maxHeartbeats 4000000 in
set_option maxRecDepth 100000 in
theorem c_X8_minus_ (l : Launch) {K : KC} {E : GE} {w : Wd} {v yy : Int} (h_v : -2147483648 ≤ v ∧ v < 2147483648) (hyy : yy = 0 ∨ yy = 1) {τ : Nat → Nat} {m : Nat} {A : MA} {th : Int} {ba st pb le ri : Nat → Int} {sp : Nat → Nat → Int} {ct : Nat → Int} (hM : MSx τ w m A th ba st pb le ri sp ct) : St K E l yX8_minus_ cX8_minus_ 3 (some (.object "java/lang/String")) 7 (110) (2200) [.ref m, iI v, iI yy] w (fun r' w' => ∃ (t : Int) (s : Nat), r' = some (.ref s) ∧ MSx τ w' m A (t) (ba) (st) (pb) (le) (ri) (sp) (ct) ∧ Keep τ w w' ∧ 0 ≤ t ∧ t ≤ 2) := by
  refine st_intro [some (.ref m), some (iI v), some (iI yy)] rfl (Nat.le_of_ble_eq_true rfl) pn_X8 ?_
  intro X C hT hRm hl hnm hQ
  obtain ⟨hRf, hRl, hRc, hRs⟩ := hRm
  refine g_wf (fun hwf => ?_)
  refine g_aload_n C dX8_minus__0 rfl ?_
  refine g_iload_n C dX8_minus__1 rfl ?_
  refine g_callS C (c_X8_isNoBase _ (v := v) h_v) ml_RX8_152 sm_yX8_isNoBase in_RX8 co_yX8_isNoBase hd_X8_isNoBase rfl ⟨by omega, by omega⟩ rfl (Nat.le_of_ble_eq_true rfl) ⟨by omega, by omega⟩ dX8_minus__2 (fun v2 w2 hp2 => ?_)
  obtain ⟨⟨yb, rfl, hyb⟩, hw2⟩ := hp2
  subst w2
  have hyb01 : yb = 0 ∨ yb = 1 := by rcases hyb with q | q <;> omega
  refine g_iconst C dX8_minus__5 ?_
  refine g_callV C (c_X8_start _ hM (y := yb) (wh := 1) (by omega) (by omega)) (ci := 10) rfl hM.o rfl ml_RX8_149 im_yX8_start se_RX8_yX8_start in_RX8 co_yX8_start hd_X8_start rfl ⟨by omega, by omega⟩ rfl (Nat.le_of_ble_eq_true rfl) ⟨by omega, by omega⟩ dX8_minus__6 (fun v6 w6 hp6 => ?_)
  obtain ⟨t6, rfl, ht6, hM6, hK6⟩ := hp6
  have hy6 : (yb) = 0 ∨ (yb) = 1 := (by omega)
  refine g_if_ne (tgt := 21) C dX8_minus__9 (by decide) (by omega) (fun h9 => ?_) (fun h9 => ?_)
  · refine g_ldcS C hT 0 rfl dX8_minus__21 ?_
    exact g_areturn C (Or.inl ⟨_, rfl⟩) hQ (Or.inr ⟨_, rfl⟩) dX8_minus__23 (by omega) (by omega) (by
      first
      | exact ⟨t6, _, rfl, hM6.ex x1, hK6.tr (Keep.ex x1), by omega, by omega⟩
      | exact ⟨t6, _, rfl, hM6, hK6, by omega, by omega⟩)
  · have hgb : GB v := by
      rcases hyb with q | q
      · exact q.2
      · omega
    obtain ⟨r, hr⟩ := RT_ex hgb
    refine g_iload_n C dX8_minus__12 rfl ?_
    refine g_callS C (c_X8_periodOf _ hgb hr) ml_RX8_142 sm_yX8_periodOf in_RX8 co_yX8_periodOf hd_X8_periodOf rfl ⟨by omega, by omega⟩ rfl (Nat.le_of_ble_eq_true rfl) ⟨by omega, by omega⟩ dX8_minus__13 (fun v13 w13 hp13 => ?_)
    obtain ⟨p, rfl, hper, x1⟩ := hp13
    have pp1 := hper.1
    have pp2 := hper.2.1
    refine g_iconst C dX8_minus__16 ?_
    refine g_iremN C dX8_minus__17 (by omega) (by omega) ?_
    refine g_if_ne (tgt := 24) C dX8_minus__18 (by decide) (by omega) (fun h18 => ?_) (fun h18 => ?_)
    · refine g_iload_n C dX8_minus__24 rfl ?_
      refine g_iload_n C dX8_minus__25 rfl ?_
      refine g_callS C (c_X8_periodOf _ hgb hr) ml_RX8_142 sm_yX8_periodOf in_RX8 co_yX8_periodOf hd_X8_periodOf rfl ⟨by omega, by omega⟩ rfl (Nat.le_of_ble_eq_true rfl) ⟨by omega, by omega⟩ dX8_minus__26 (fun v26 w26 hp26 => ?_)
      obtain ⟨p2, rfl, hper2, x2⟩ := hp26
      have pp3 := hper2.1
      have pp4 := hper2.2.1
      obtain ⟨K0, rfl⟩ : ∃ K0, p2 = K0 + 1 := ⟨p2 - 1, by omega⟩
      refine g_iconst C dX8_minus__29 ?_
      refine g_isub C dX8_minus__30 ?_
      rw [show ((K0 + 1 : Nat) : Int) - 1 = (K0 : Int) by omega]
      refine g_wf (fun hwf30 => ?_)
      refine g_callS C (c_X8_walked _ (b := v) (r := r) (K := K0) hgb hr (by omega)) ml_RX8_134 sm_yX8_walked in_RX8 co_yX8_walked hd_X8_walked rfl ⟨by omega, by omega⟩ rfl (Nat.le_of_ble_eq_true rfl) ⟨by omega, by omega⟩ dX8_minus__31 (fun v31 w31 hp31 => ?_)
      obtain ⟨q, rfl, hR, x3f, hq⟩ := hp31
      have x3 := x3f.ex hwf30
      have x123 := (x1.tr x2).tr x3
      obtain ⟨R, a0, a1, a2, a3, hR0, k0, k1, k2, k3, l0, l1, l2, l3, lo0, lo1, lo2, lo3⟩ := id hR
      have J43 : ∀ (K aK : Nat) (zK : Int), K ≤ 1 → R K = some aK → RowAt w31 aK zK 5 → G E X 3 43 [some (.ref m), some (iI v), some (iI yy)] [iI (K : Int), .ref q] w31 42 144 := by
        intro K aK zK hK kK lK
        refine g_aaloadN (K) C rfl rfl hR0 (by omega) (by omega) kK dX8_minus__43 ?_
        refine g_bipush C dX8_minus__44 (by decide) ?_
        refine g_wf (fun hwf46 => ?_)
        refine t_callS C hT (c_X8_text _ (rx := 10) (lK.le (by omega)) (by omega)) ml_RX8_171 sm_yX8_text in_RX8 co_yX8_text hd_X8_text rfl ⟨by omega, by omega⟩ rfl (Nat.le_of_ble_eq_true rfl) ⟨by omega, by omega⟩ dX8_minus__46 (fun v46 w46 hp46 => ?_)
        obtain ⟨s46, rfl, hfr46⟩ := hp46
        have hxf46 := hfr46.ex hwf46
        exact g_areturn C (Or.inl ⟨_, rfl⟩) hQ (Or.inr ⟨_, rfl⟩) dX8_minus__49 (by omega) (by omega) (by
          first
          | exact ⟨t6, _, rfl, hM6.ex (x123.tr hxf46), hK6.tr (Keep.ex (x123.tr hxf46)), by omega, by omega⟩)
      refine g_iload_n C dX8_minus__34 rfl ?_
      refine g_if_eq (tgt := 42) C dX8_minus__35 (by decide) (by omega) (fun h35 => ?_) (fun h35 => ?_)
      · refine g_iconst C dX8_minus__42 ?_
        first
        | exact g_widen (by omega) (by omega) (J43 0 a0 _ (by omega) k0 l0)
        | exact g_widen (by omega) (by omega) (J43 1 a1 _ (by omega) k1 l1)
      · refine g_iconst C dX8_minus__38 ?_
        refine g_goto (tgt := 43) C dX8_minus__39 (by decide) ?_
        first
        | exact g_widen (by omega) (by omega) (J43 0 a0 _ (by omega) k0 l0)
        | exact g_widen (by omega) (by omega) (J43 1 a1 _ (by omega) k1 l1)
    · refine g_ldcS C hT 0 rfl dX8_minus__21 ?_
      exact g_areturn C (Or.inl ⟨_, rfl⟩) hQ (Or.inr ⟨_, rfl⟩) dX8_minus__23 (by omega) (by omega) (by
        first
        | exact ⟨t6, _, rfl, hM6.ex x1, hK6.tr (Keep.ex x1), by omega, by omega⟩
        | exact ⟨t6, _, rfl, hM6, hK6, by omega, by omega⟩)
set_option maxHeartbeats 4000000 in
set_option maxRecDepth 100000 in
theorem c_X8_pairText (l : Launch) {K : KC} {E : GE} {w : Wd} {v yy : Int} (h_v : -2147483648 ≤ v ∧ v < 2147483648) (hyy : yy = 0 ∨ yy = 1) {τ : Nat → Nat} {m : Nat} {A : MA} {th : Int} {ba st pb le ri : Nat → Int} {sp : Nat → Nat → Int} {ct : Nat → Int} (hM : MSx τ w m A th ba st pb le ri sp ct) : St K E l yX8_pairText cX8_pairText 3 (some (.object "java/lang/String")) 7 (60) (2000) [.ref m, iI v, iI yy] w (fun r' w' => ∃ (t : Int) (s : Nat), r' = some (.ref s) ∧ MSx τ w' m A (t) (ba) (st) (pb) (le) (ri) (sp) (ct) ∧ Keep τ w w' ∧ 0 ≤ t ∧ t ≤ 2) := by
  refine st_intro [some (.ref m), some (iI v), some (iI yy)] rfl (Nat.le_of_ble_eq_true rfl) pn_X8 ?_
  intro X C hT hRm hl hnm hQ
  obtain ⟨hRf, hRl, hRc, hRs⟩ := hRm
  refine g_wf (fun hwf => ?_)
  refine g_aload_n C dX8_pairText_0 rfl ?_
  refine g_iload_n C dX8_pairText_1 rfl ?_
  refine g_callS C (c_X8_isNo _ (v := v) h_v) ml_RX8_145 sm_yX8_isNo in_RX8 co_yX8_isNo hd_X8_isNo rfl ⟨by omega, by omega⟩ rfl (Nat.le_of_ble_eq_true rfl) ⟨by omega, by omega⟩ dX8_pairText_2 (fun v2 w2 hp2 => ?_)
  obtain ⟨rfl, hw2⟩ := hp2
  subst w2
  refine g_iconst C dX8_pairText_5 ?_
  refine g_callV C (c_X8_start _ hM (y := bI (¬ (0 ≤ v ∧ v ≤ 2))) (wh := 1) (bI_01 _) (by omega)) (ci := 10) rfl hM.o rfl ml_RX8_149 im_yX8_start se_RX8_yX8_start in_RX8 co_yX8_start hd_X8_start rfl ⟨by omega, by omega⟩ rfl (Nat.le_of_ble_eq_true rfl) ⟨by omega, by omega⟩ dX8_pairText_6 (fun v6 w6 hp6 => ?_)
  obtain ⟨t6, rfl, ht6, hM6, hK6⟩ := hp6
  have hy6 : (bI (¬ (0 ≤ v ∧ v ≤ 2))) = 0 ∨ (bI (¬ (0 ≤ v ∧ v ≤ 2))) = 1 := (bI_01 _)
  refine g_if_eq (tgt := 17) C dX8_pairText_9 (by decide) (bI_r _) (fun h9 => ?_) (fun h9 => ?_)
  · have hwk : 0 ≤ v ∧ v ≤ 2 := Classical.not_not.mp (bI_0 (by omega))
    obtain ⟨V, rfl⟩ := Int.eq_ofNat_of_zero_le hwk.1
    refine g_aload_n C dX8_pairText_17 rfl ?_
    refine g_iload_n C dX8_pairText_18 rfl ?_
    refine g_iload_n C dX8_pairText_19 rfl ?_
    refine g_callV C (c_X8_its _ hM6 (i := V) (y := yy) (by omega) hyy) (ci := 10) rfl hM6.o rfl ml_RX8_246 im_yX8_its se_RX8_yX8_its in_RX8 co_yX8_its hd_X8_its rfl ⟨by omega, by omega⟩ rfl (Nat.le_of_ble_eq_true rfl) ⟨by omega, by omega⟩ dX8_pairText_20 (fun v20 w20 hp20 => ?_)
    obtain ⟨⟨q20, rfl, hq20, r20⟩, hw20⟩ := hp20
    subst hw20
    refine g_bipush C dX8_pairText_23 (by decide) ?_
    refine g_wf (fun hwf25 => ?_)
    refine t_callS C hT (c_X8_text _ (rx := 10) (r20.le (by omega)) (by omega)) ml_RX8_171 sm_yX8_text in_RX8 co_yX8_text hd_X8_text rfl ⟨by omega, by omega⟩ rfl (Nat.le_of_ble_eq_true rfl) ⟨by omega, by omega⟩ dX8_pairText_25 (fun v25 w25 hp25 => ?_)
    obtain ⟨s25, rfl, hfr25⟩ := hp25
    have hxf25 := hfr25.ex hwf25
    exact g_areturn C (Or.inl ⟨_, rfl⟩) hQ (Or.inr ⟨_, rfl⟩) dX8_pairText_28 (by omega) (by omega) (by
      first
      | exact ⟨t6, _, rfl, hM6.ex hxf25, hK6.tr (Keep.ex hxf25), by omega, by omega⟩
      | exact ⟨t6, _, rfl, hM6, hK6, by omega, by omega⟩)
  · refine g_ldcS C hT 0 rfl dX8_pairText_12 ?_
    refine g_goto (tgt := 28) C dX8_pairText_14 (by decide) ?_
    exact g_areturn C (Or.inl ⟨_, rfl⟩) hQ (Or.inr ⟨_, rfl⟩) dX8_pairText_28 (by omega) (by omega) (by
      first
      | exact ⟨t6, _, rfl, hM6.ex hxf25, hK6.tr (Keep.ex hxf25), by omega, by omega⟩
      | exact ⟨t6, _, rfl, hM6, hK6, by omega, by omega⟩)
set_option maxHeartbeats 4000000 in
set_option maxRecDepth 100000 in
theorem c_X8_pairNorm (l : Launch) {K : KC} {E : GE} {w : Wd} {v : Int} (h_v : -2147483648 ≤ v ∧ v < 2147483648) {τ : Nat → Nat} {m : Nat} {A : MA} {th : Int} {ba st pb le ri : Nat → Int} {sp : Nat → Nat → Int} {ct : Nat → Int} (hM : MSx τ w m A th ba st pb le ri sp ct) (hP : HPp pb le ri) : St K E l yX8_pairNorm cX8_pairNorm 2 (some (.object "java/lang/String")) 7 (75) (2110) [.ref m, iI v] w (fun r' w' => ∃ (t : Int) (s : Nat), r' = some (.ref s) ∧ MSx τ w' m A (t) (ba) (st) (pb) (le) (ri) (sp) (ct) ∧ Keep τ w w' ∧ 0 ≤ t ∧ t ≤ 2) := by
  refine st_intro [some (.ref m), some (iI v)] rfl (Nat.le_of_ble_eq_true rfl) pn_X8 ?_
  intro X C hT hRm hl hnm hQ
  obtain ⟨hRf, hRl, hRc, hRs⟩ := hRm
  refine g_wf (fun hwf => ?_)
  refine g_aload_n C dX8_pairNorm_0 rfl ?_
  refine g_iload_n C dX8_pairNorm_1 rfl ?_
  refine g_callS C (c_X8_isNo _ (v := v) h_v) ml_RX8_145 sm_yX8_isNo in_RX8 co_yX8_isNo hd_X8_isNo rfl ⟨by omega, by omega⟩ rfl (Nat.le_of_ble_eq_true rfl) ⟨by omega, by omega⟩ dX8_pairNorm_2 (fun v2 w2 hp2 => ?_)
  obtain ⟨rfl, hw2⟩ := hp2
  subst w2
  refine g_iconst C dX8_pairNorm_5 ?_
  refine g_callV C (c_X8_start _ hM (y := bI (¬ (0 ≤ v ∧ v ≤ 2))) (wh := 1) (bI_01 _) (by omega)) (ci := 10) rfl hM.o rfl ml_RX8_149 im_yX8_start se_RX8_yX8_start in_RX8 co_yX8_start hd_X8_start rfl ⟨by omega, by omega⟩ rfl (Nat.le_of_ble_eq_true rfl) ⟨by omega, by omega⟩ dX8_pairNorm_6 (fun v6 w6 hp6 => ?_)
  obtain ⟨t6, rfl, ht6, hM6, hK6⟩ := hp6
  have hy6 : (bI (¬ (0 ≤ v ∧ v ≤ 2))) = 0 ∨ (bI (¬ (0 ≤ v ∧ v ≤ 2))) = 1 := (bI_01 _)
  refine g_if_eq (tgt := 17) C dX8_pairNorm_9 (by decide) (bI_r _) (fun h9 => ?_) (fun h9 => ?_)
  · have hwk : 0 ≤ v ∧ v ≤ 2 := Classical.not_not.mp (bI_0 (by omega))
    obtain ⟨V, rfl⟩ := Int.eq_ofNat_of_zero_le hwk.1
    obtain ⟨g1, -, -⟩ := hP V (by omega)
    have g11 := g1.1
    have g12 := g1.2.1
    obtain ⟨q1, hq1, tq1, r1⟩ := hM6.L (i := V) (by omega)
    obtain ⟨q2, hq2, tq2, r2⟩ := hM6.R (i := V) (by omega)
    obtain ⟨nL, fL, eL, bL, dL⟩ := id r1
    obtain ⟨nR, fR, eR', bR, dR⟩ := id r2
    refine g_aload_n C dX8_pairNorm_17 rfl ?_
    refine g_get (ci := 10) C rfl inTX8 3 (by decide) fl_RX8_16 rfl hM6.o rfl dX8_pairNorm_18 ?_
    refine g_iload_n C dX8_pairNorm_21 rfl ?_
    refine g_ialoadN (V) C hM6.p (by omega) (by omega) dX8_pairNorm_22 ?_
    refine g_aload_n C dX8_pairNorm_23 rfl ?_
    refine g_get (ci := 10) C rfl inTX8 4 (by decide) fl_RX8_24 rfl hM6.o rfl dX8_pairNorm_24 ?_
    refine g_iload_n C dX8_pairNorm_27 rfl ?_
    refine g_aaloadN (V) C rfl rfl hM6.l (by omega) (by omega) hq1 dX8_pairNorm_28 ?_
    refine g_aload_n C dX8_pairNorm_29 rfl ?_
    refine g_get (ci := 10) C rfl inTX8 5 (by decide) fl_RX8_28 rfl hM6.o rfl dX8_pairNorm_30 ?_
    refine g_iload_n C dX8_pairNorm_33 rfl ?_
    refine g_aaloadN (V) C rfl rfl hM6.r (by omega) (by omega) hq2 dX8_pairNorm_34 ?_
    refine g_callS C (c_X8_norm _ (c := 4) eL eR' bL bR dL dR (by omega) (by omega)) ml_RX8_188 sm_yX8_norm in_RX8 co_yX8_norm hd_X8_norm rfl ⟨by omega, by omega⟩ rfl (Nat.le_of_ble_eq_true rfl) ⟨by omega, by omega⟩ dX8_pairNorm_35 (fun v35 w35 hp35 => ?_)
    obtain ⟨q35, m35, g35, rfl, h35, hb35, hm35, x35, hq35⟩ := hp35
    refine g_bipush C dX8_pairNorm_38 (by decide) ?_
    refine g_wf (fun hwf40 => ?_)
    refine t_callS C hT (c_X8_text _ (rx := 10) (RowAt.of h35 hb35 (by omega)) (by omega)) ml_RX8_171 sm_yX8_text in_RX8 co_yX8_text hd_X8_text rfl ⟨by omega, by omega⟩ rfl (Nat.le_of_ble_eq_true rfl) ⟨by omega, by omega⟩ dX8_pairNorm_40 (fun v40 w40 hp40 => ?_)
    obtain ⟨s40, rfl, hfr40⟩ := hp40
    have hxf40 := hfr40.ex hwf40
    exact g_areturn C (Or.inl ⟨_, rfl⟩) hQ (Or.inr ⟨_, rfl⟩) dX8_pairNorm_43 (by omega) (by omega) (by
      first
      | exact ⟨t6, _, rfl, hM6.ex (x35.tr hxf40), hK6.tr (Keep.ex (x35.tr hxf40)), by omega, by omega⟩
      | exact ⟨t6, _, rfl, hM6, hK6, by omega, by omega⟩)
  · refine g_ldcS C hT 0 rfl dX8_pairNorm_12 ?_
    refine g_goto (tgt := 43) C dX8_pairNorm_14 (by decide) ?_
    exact g_areturn C (Or.inl ⟨_, rfl⟩) hQ (Or.inr ⟨_, rfl⟩) dX8_pairNorm_43 (by omega) (by omega) (by
      first
      | exact ⟨t6, _, rfl, hM6.ex (x35.tr hxf40), hK6.tr (Keep.ex (x35.tr hxf40)), by omega, by omega⟩
      | exact ⟨t6, _, rfl, hM6, hK6, by omega, by omega⟩)
theorem SBw.fr {u u' : Wd} {a v n m : Nat} (h : SBw u a v n m) (x : Fr u u') (hw : wF u) : SBw u' a v n m := by
  obtain ⟨mb, f, k1, k2, k3, k4, k5⟩ := h
  exact ⟨mb, f, by rw [x.2 a (hw a _ k1)]; exact k1, by rw [x.2 v (hw v _ k2)]; exact k2, k3, k4, k5⟩
theorem SBq.fr {W0 u u' : Wd} {a N : Nat} (h : SBq W0 u a N) (x : Fr u u') (hw : wF u) : SBq W0 u' a N := by
  obtain ⟨v, n, m, h1, h2, h3, h4, h5, h6⟩ := h
  exact ⟨v, n, m, h1.fr x hw, h2, h3, h4, h5, h6.tr x⟩
theorem mulb {x y n : Int} (hx : 0 ≤ x ∧ x ≤ n) (hy : 0 ≤ y ∧ y ≤ n) : 0 ≤ x * y ∧ x * y ≤ n * n := ⟨Int.mul_nonneg hx.1 hy.1, Int.mul_le_mul hx.2 hy.2 hy.1 (by omega)⟩
set_option maxHeartbeats 4000000 in
set_option maxRecDepth 100000 in
theorem c_X8_extreme (l : Launch) {K : KC} {E : GE} {w : Wd} {yy gg : Int} (hyy : yy = 0 ∨ yy = 1) (hgg : gg = 0 ∨ gg = 1) {τ : Nat → Nat} {m : Nat} {A : MA} {th : Int} {ba st pb le ri : Nat → Int} {sp : Nat → Nat → Int} {ct : Nat → Int} (hM : MSx τ w m A th ba st pb le ri sp ct) : St K E l yX8_extreme cX8_extreme 5 (some (.object "java/lang/String")) 7 (60) (2000) [.ref m, iI yy, iI gg] w (fun r' w' => ∃ (t : Int) (s : Nat), r' = some (.ref s) ∧ MSx τ w' m A (t) (ba) (st) (pb) (le) (ri) (sp) (ct) ∧ Keep τ w w' ∧ 0 ≤ t ∧ t ≤ 2) := by
  refine st_intro [some (.ref m), some (iI yy), some (iI gg), none, none] rfl (Nat.le_of_ble_eq_true rfl) pn_X8 ?_
  intro X C hT hRm hl hnm hQ
  obtain ⟨hRf, hRl, hRc, hRs⟩ := hRm
  refine g_wf (fun hwf => ?_)
  refine g_aload_n C dX8_extreme_0 rfl ?_
  refine g_iconst C dX8_extreme_1 ?_
  refine g_put (ci := 10) C rfl inTX8 tyX8 tyX8_ok nmX8 0 (by decide) fl_RX8_41 rfl rfl hM.o (Nat.le_of_ble_eq_true rfl) rfl rfl dX8_extreme_2 ?_
  have hM2 := hM.setO 0
  obtain ⟨u0, hu0, hK2⟩ : ∃ u0, u0 = wset w m (true, eO 10 [iI 0, .ref A.1, .ref A.2.1, .ref A.2.2.1, .ref A.2.2.2.1, .ref A.2.2.2.2.1, .ref A.2.2.2.2.2.1, .ref A.2.2.2.2.2.2.1]) ∧ Keep τ w u0 := ⟨_, rfl, Keep.set _ (by have := hM.tg; omega)⟩
  rw [← hu0] at hM2
  refine g_eqw (w' := u0) hu0.symm ?_
  refine g_aload_n C dX8_extreme_5 rfl ?_
  refine g_iconst C dX8_extreme_6 ?_
  refine g_iload_n C dX8_extreme_7 rfl ?_
  refine g_callV C (c_X8_its _ hM2 (i := 0) (y := yy) (by omega) hyy) (ci := 10) rfl hM2.o rfl ml_RX8_246 im_yX8_its se_RX8_yX8_its in_RX8 co_yX8_its hd_X8_its rfl ⟨by omega, by omega⟩ rfl (Nat.le_of_ble_eq_true rfl) ⟨by omega, by omega⟩ dX8_extreme_8 (fun v8 w8 hp8 => ?_)
  obtain ⟨⟨q8, rfl, hq8, r8⟩, hw8⟩ := hp8
  rw [hw8]
  refine g_astore_n C dX8_extreme_11 (by decide) rfl ?_
  refine g_iconst C dX8_extreme_12 ?_
  refine g_istore C dX8_extreme_13 (by decide) rfl ?_
  refine g_loop (σ := Nat × Nat) (fun s => 1 ≤ s.1 ∧ s.1 ≤ 3 ∧ ∃ z, RowAt u0 s.2 z 4) (fun s => G E X 5 15 [some (.ref m), some (iI yy), some (iI gg), some (.ref s.2), some (iI (s.1 : Int))] [] u0 0 0) (fun s => 3 - s.1) ?_ (1, q8) ⟨by dsimp only; omega, by dsimp only; omega, _, r8⟩
  rintro ⟨j, a⟩ hqq ih
  obtain ⟨hj1, hj, z, ra⟩ := hqq
  dsimp only at hj1 hj ra ⊢
  refine g_iload C dX8_extreme_15 rfl ?_
  refine g_iconst C dX8_extreme_17 ?_
  refine g_icmp_ge (tgt := 58) C dX8_extreme_18 (by decide) (by omega) (by omega) (fun h18 => ?_) (fun h18 => ?_)
  · refine g_aload_n C dX8_extreme_58 rfl ?_
    refine g_bipush C dX8_extreme_59 (by decide) ?_
    refine g_wf (fun hwf61 => ?_)
    refine t_callS C hT (c_X8_text _ (rx := 10) (ra.le (by omega)) (by omega)) ml_RX8_171 sm_yX8_text in_RX8 co_yX8_text hd_X8_text rfl ⟨by omega, by omega⟩ rfl (Nat.le_of_ble_eq_true rfl) ⟨by omega, by omega⟩ dX8_extreme_61 (fun v61 w61 hp61 => ?_)
    obtain ⟨s61, rfl, hfr61⟩ := hp61
    have hxf61 := hfr61.ex hwf61
    exact g_areturn C (Or.inl ⟨_, rfl⟩) hQ (Or.inr ⟨_, rfl⟩) dX8_extreme_64 (by omega) (by omega) (by
      first
      | exact ⟨0, _, rfl, hM2.ex hxf61, hK2.tr (Keep.ex hxf61), by omega, by omega⟩)
  · refine g_aload_n C dX8_extreme_21 rfl ?_
    refine g_iload C dX8_extreme_22 rfl ?_
    refine g_iload_n C dX8_extreme_24 rfl ?_
    refine g_callV C (c_X8_its _ hM2 (i := j) (y := yy) (by omega) hyy) (ci := 10) rfl hM2.o rfl ml_RX8_246 im_yX8_its se_RX8_yX8_its in_RX8 co_yX8_its hd_X8_its rfl ⟨by omega, by omega⟩ rfl (Nat.le_of_ble_eq_true rfl) ⟨by omega, by omega⟩ dX8_extreme_25 (fun v25 w25 hp25 => ?_)
    obtain ⟨⟨q25, rfl, hq25, r25⟩, hw25⟩ := hp25
    rw [hw25]
    obtain ⟨n25, f25, e25, b25, d25⟩ := id r25
    obtain ⟨na, fa, ea, ba2, da⟩ := id ra
    refine g_aload_n C dX8_extreme_28 rfl ?_
    refine g_callS C (c_X8_side _ e25 ea b25 ba2 (by omega) (by omega)) ml_RX8_199 sm_yX8_side in_RX8 co_yX8_side hd_X8_side rfl ⟨by omega, by omega⟩ rfl (Nat.le_of_ble_eq_true rfl) ⟨by omega, by omega⟩ dX8_extreme_29 (fun v29 w29 hp29 => ?_)
    obtain ⟨⟨d29, rfl, hd29⟩, hw29⟩ := hp29
    subst w29
    refine g_iload_n C dX8_extreme_32 rfl ?_
    refine g_if_eq (tgt := 40) C dX8_extreme_33 (by decide) (by omega) (fun h33 => ?_) (fun h33 => ?_)
    · refine g_iconst C dX8_extreme_40 ?_
      refine g_icmp_ne (tgt := 52) C dX8_extreme_41 (by decide) (by omega) (by omega) (fun h41 => ?_) (fun h41 => ?_)
      · refine g_iinc C dX8_extreme_52 rfl (by decide) rfl ?_
        refine g_goto (tgt := 15) C dX8_extreme_55 (by decide) ?_
        first
        | exact ih (j + 1, q48) ⟨by dsimp only; omega, by dsimp only; omega, _, r48⟩ (by dsimp only; omega)
        | exact ih (j + 1, a) ⟨by dsimp only; omega, by dsimp only; omega, _, ra⟩ (by dsimp only; omega)
      · refine g_aload_n C dX8_extreme_44 rfl ?_
        refine g_iload C dX8_extreme_45 rfl ?_
        refine g_iload_n C dX8_extreme_47 rfl ?_
        refine g_callV C (c_X8_its _ hM2 (i := j) (y := yy) (by omega) hyy) (ci := 10) rfl hM2.o rfl ml_RX8_246 im_yX8_its se_RX8_yX8_its in_RX8 co_yX8_its hd_X8_its rfl ⟨by omega, by omega⟩ rfl (Nat.le_of_ble_eq_true rfl) ⟨by omega, by omega⟩ dX8_extreme_48 (fun v48 w48 hp48 => ?_)
        obtain ⟨⟨q48, rfl, hq48, r48⟩, hw48⟩ := hp48
        rw [hw48]
        refine g_astore_n C dX8_extreme_51 (by decide) rfl ?_
        refine g_iinc C dX8_extreme_52 rfl (by decide) rfl ?_
        refine g_goto (tgt := 15) C dX8_extreme_55 (by decide) ?_
        first
        | exact ih (j + 1, q48) ⟨by dsimp only; omega, by dsimp only; omega, _, r48⟩ (by dsimp only; omega)
        | exact ih (j + 1, a) ⟨by dsimp only; omega, by dsimp only; omega, _, ra⟩ (by dsimp only; omega)
    · refine g_iconst C dX8_extreme_36 ?_
      refine g_goto (tgt := 41) C dX8_extreme_37 (by decide) ?_
      refine g_icmp_ne (tgt := 52) C dX8_extreme_41 (by decide) (by omega) (by omega) (fun h41 => ?_) (fun h41 => ?_)
      · refine g_iinc C dX8_extreme_52 rfl (by decide) rfl ?_
        refine g_goto (tgt := 15) C dX8_extreme_55 (by decide) ?_
        first
        | exact ih (j + 1, q48) ⟨by dsimp only; omega, by dsimp only; omega, _, r48⟩ (by dsimp only; omega)
        | exact ih (j + 1, a) ⟨by dsimp only; omega, by dsimp only; omega, _, ra⟩ (by dsimp only; omega)
      · refine g_aload_n C dX8_extreme_44 rfl ?_
        refine g_iload C dX8_extreme_45 rfl ?_
        refine g_iload_n C dX8_extreme_47 rfl ?_
        refine g_callV C (c_X8_its _ hM2 (i := j) (y := yy) (by omega) hyy) (ci := 10) rfl hM2.o rfl ml_RX8_246 im_yX8_its se_RX8_yX8_its in_RX8 co_yX8_its hd_X8_its rfl ⟨by omega, by omega⟩ rfl (Nat.le_of_ble_eq_true rfl) ⟨by omega, by omega⟩ dX8_extreme_48 (fun v48 w48 hp48 => ?_)
        obtain ⟨⟨q48, rfl, hq48, r48⟩, hw48⟩ := hp48
        rw [hw48]
        refine g_astore_n C dX8_extreme_51 (by decide) rfl ?_
        refine g_iinc C dX8_extreme_52 rfl (by decide) rfl ?_
        refine g_goto (tgt := 15) C dX8_extreme_55 (by decide) ?_
        first
        | exact ih (j + 1, q48) ⟨by dsimp only; omega, by dsimp only; omega, _, r48⟩ (by dsimp only; omega)
        | exact ih (j + 1, a) ⟨by dsimp only; omega, by dsimp only; omega, _, ra⟩ (by dsimp only; omega)
set_option maxHeartbeats 4000000 in
set_option maxRecDepth 100000 in
theorem c_X8_periodText (l : Launch) {K : KC} {E : GE} {w : Wd} {v : Int} (h_v : -2147483648 ≤ v ∧ v < 2147483648) {τ : Nat → Nat} {m : Nat} {A : MA} {th : Int} {ba st pb le ri : Nat → Int} {sp : Nat → Nat → Int} {ct : Nat → Int} (hM : MSx τ w m A th ba st pb le ri sp ct) : St K E l yX8_periodText cX8_periodText 5 (some (.object "java/lang/String")) 7 (80) (52500) [.ref m, iI v] w (fun r' w' => ∃ (t : Int) (s : Nat), r' = some (.ref s) ∧ MSx τ w' m A (t) (ba) (st) (pb) (le) (ri) (sp) (ct) ∧ Keep τ w w' ∧ 0 ≤ t ∧ t ≤ 2) := by
  refine st_intro [some (.ref m), some (iI v), none, none, none] rfl (Nat.le_of_ble_eq_true rfl) pn_X8 ?_
  intro X C hT hRm hl hnm hQ
  obtain ⟨hRf, hRl, hRc, hRs⟩ := hRm
  refine g_wf (fun hwf => ?_)
  refine g_aload_n C dX8_periodText_0 rfl ?_
  refine g_iload_n C dX8_periodText_1 rfl ?_
  refine g_callS C (c_X8_isNoBase _ (v := v) h_v) ml_RX8_152 sm_yX8_isNoBase in_RX8 co_yX8_isNoBase hd_X8_isNoBase rfl ⟨by omega, by omega⟩ rfl (Nat.le_of_ble_eq_true rfl) ⟨by omega, by omega⟩ dX8_periodText_2 (fun v2 w2 hp2 => ?_)
  obtain ⟨⟨yb, rfl, hyb⟩, hw2⟩ := hp2
  subst w2
  have hyb01 : yb = 0 ∨ yb = 1 := by rcases hyb with q | q <;> omega
  refine g_iconst C dX8_periodText_5 ?_
  refine g_callV C (c_X8_start _ hM (y := yb) (wh := 1) (by omega) (by omega)) (ci := 10) rfl hM.o rfl ml_RX8_149 im_yX8_start se_RX8_yX8_start in_RX8 co_yX8_start hd_X8_start rfl ⟨by omega, by omega⟩ rfl (Nat.le_of_ble_eq_true rfl) ⟨by omega, by omega⟩ dX8_periodText_6 (fun v6 w6 hp6 => ?_)
  obtain ⟨t6, rfl, ht6, hM6, hK6⟩ := hp6
  have hy6 : (yb) = 0 ∨ (yb) = 1 := (by omega)
  refine g_if_eq (tgt := 15) C dX8_periodText_9 (by decide) (by omega) (fun h9 => ?_) (fun h9 => ?_)
  · have hgb : GB v := by
      rcases hyb with q | q
      · exact q.2
      · omega
    obtain ⟨r, hr⟩ := RT_ex hgb
    have hr9 := RT_le hgb hr
    refine g_iload_n C dX8_periodText_15 rfl ?_
    refine g_callS C (c_X8_periodOf _ hgb hr) ml_RX8_142 sm_yX8_periodOf in_RX8 co_yX8_periodOf hd_X8_periodOf rfl ⟨by omega, by omega⟩ rfl (Nat.le_of_ble_eq_true rfl) ⟨by omega, by omega⟩ dX8_periodText_16 (fun v16 w16 hp16 => ?_)
    obtain ⟨p, rfl, hper, x1⟩ := hp16
    have pp1 := hper.1
    have pp2 := hper.2.1
    refine g_istore_n C dX8_periodText_19 (by decide) rfl ?_
    refine g_wf (fun hwq => ?_)
    refine g_new (ci := 1) C rfl inTJ4 tyJ4 tyJ4_ok kl_RX8_86 ib_RJ4 in_RJ4 (fs := [.null, iI 0, iI 0, iI 0]) (by intro j hj; repeat (first | rfl | (cases j; rfl) | (rename_i j; cases j; rfl) | omega)) (by omega) dX8_periodText_20 ?_
    refine g_dup C dX8_periodText_23 rfl ?_
    refine t_callI C hT (c_J4_init_da8c8 _ wpush_s) ml_RX8_88 im_yJ4_init_da8c8 in_RJ4 co_yJ4_init_da8c8 rfl hd_J4_init_da8c8 rfl ⟨by omega, by omega⟩ rfl (Nat.le_of_ble_eq_true rfl) ⟨by omega, by omega⟩ dX8_periodText_24 (fun v24 w24 hp24 => ?_)
    obtain ⟨rfl, hq0⟩ := hp24
    have hq := SBq.new hwq hq0
    have hqb := hwq
    refine g_astore_n C dX8_periodText_27 (by decide) rfl ?_
    refine g_iconst C dX8_periodText_28 ?_
    refine g_istore C dX8_periodText_29 (by decide) rfl ?_
    refine g_widen (k' := 18 + 0) (n' := 100 + 0) (by omega) (by omega) ?_
    refine g_loop (σ := Nat × Wd) (fun s => s.1 ≤ p + 1 ∧ SBq w16 s.2 w16.1 (27 * s.1)) (fun s => G E X 5 31 [some (.ref m), some (iI v), some (iI (p : Int)), some (.ref w16.1), some (iI (s.1 : Int))] [] s.2 (18 + 3 * s.1) (100 + 3000 * s.1)) (fun s => p + 1 - s.1) ?_ (0, w24) ⟨by dsimp only; omega, hq⟩
    rintro ⟨j, u⟩ hqq ih
    obtain ⟨hj, hq⟩ := hqq
    dsimp only at hj hq ⊢
    refine g_iload C dX8_periodText_31 rfl ?_
    refine g_iload_n C dX8_periodText_33 rfl ?_
    refine g_icmp_gt (tgt := 71) C dX8_periodText_34 (by decide) (by omega) (by omega) (fun h34 => ?_) (fun h34 => ?_)
    · refine g_aload_n C dX8_periodText_71 rfl ?_
      obtain ⟨v72, n72, m72, hS72, hn72, hm72, hv72, ha72, hf72⟩ := hq
      refine t_callV C hT (c_J4_toString_0e30d _ hS72 (by omega)) (RcV.sb C hS72) rfl ml_RX8_113 im_yJ4_toString_0e30d se_RJ4_yJ4_toString_0e30d in_RJ4 co_yJ4_toString_0e30d hd_J4_toString_0e30d rfl ⟨by omega, by omega⟩ rfl (Nat.le_of_ble_eq_true rfl) ⟨by omega, by omega⟩ dX8_periodText_72 (fun v72 w72 hp72 => ?_)
      obtain ⟨rfl, hfr72⟩ := hp72
      have hfx := hf72.tr hfr72
      exact g_areturn C (Or.inl ⟨_, rfl⟩) hQ (Or.inr ⟨_, rfl⟩) dX8_periodText_75 (by omega) (by omega) (by
        first
        | exact ⟨t6, _, rfl, hM6.ex (x1.tr (hfx.ex hqb)), hK6.tr (Keep.ex (x1.tr (hfx.ex hqb))), by omega, by omega⟩)
    · refine g_aload_n C dX8_periodText_37 rfl ?_
      refine g_iload C dX8_periodText_38 rfl ?_
      have hjp : j ≤ p := by omega
      have J50 : ∀ i, i < 4 → G E X 5 50 [some (.ref m), some (iI v), some (iI (p : Int)), some (.ref w16.1), some (iI (j : Int))] [.ref (K.1 i), .ref w16.1] u (18 + 3 * j) (100 + 3000 * j) := by
        intro i hi
        obtain ⟨v50, n50, m50, hS50, hn50, hm50, hv50, ha50, hf50⟩ := hq
        have hg50 := grow1 (i := i) hS50 hm50
        refine t_callV C hT (c_J4_append_15ec4 _ hS50 (i := i) (by omega) (by omega) (by omega)) (RcV.sb C hS50) rfl ml_RX8_222 im_yJ4_append_15ec4 se_RJ4_yJ4_append_15ec4 in_RJ4 co_yJ4_append_15ec4 hd_J4_append_15ec4 rfl ⟨by omega, by omega⟩ rfl (Nat.le_of_ble_eq_true rfl) ⟨by omega, by omega⟩ dX8_periodText_50 (fun v50 w50 hp50 => ?_)
        obtain ⟨rfl, x50⟩ := hp50
        replace hq := SBq.str hn50 hm50 hv50 ha50 hf50 hg50 x50
        have cg := cf_good hgb hr (k := j) (by omega)
        refine g_wf (fun hwf50 => ?_)
        refine g_iload_n C dX8_periodText_53 rfl ?_
        refine g_iload C dX8_periodText_54 rfl ?_
        refine g_callS C (c_X8_terms _ (b := v) (r := r) (K := j) hgb hr (by omega)) ml_RX8_138 sm_yX8_terms in_RX8 co_yX8_terms hd_X8_terms rfl ⟨by omega, by omega⟩ rfl (Nat.le_of_ble_eq_true rfl) ⟨by omega, by omega⟩ dX8_periodText_56 (fun v56 w56 hp56 => ?_)
        obtain ⟨f56, rfl, rfl, t0, t1, t2⟩ := hp56
        replace hq := hq.fr ((Fr.rf w50).push (true, eI 3 f56)) hwf50
        refine g_iconst C dX8_periodText_59 ?_
        refine g_ialoadN (2) C wpush_s (by omega) (by omega) dX8_periodText_60 ?_
        rw [t2]
        obtain ⟨v61, n61, m61, hS61, hn61, hm61, hv61, ha61, hf61⟩ := hq
        refine t_callV C hT (c_J4_append_bf812 _ hS61 (by omega) (by omega) (by omega)) (RcV.sb C hS61) rfl ml_RX8_204 im_yJ4_append_bf812 se_RJ4_yJ4_append_bf812 in_RJ4 co_yJ4_append_bf812 hd_J4_append_bf812 rfl ⟨by omega, by omega⟩ rfl (Nat.le_of_ble_eq_true rfl) ⟨by omega, by omega⟩ dX8_periodText_61 (fun v61 w61 hp61 => ?_)
        obtain ⟨rfl, x61⟩ := hp61
        replace hq := SBq.int hn61 hm61 hv61 ha61 hf61 x61
        refine g_pop C dX8_periodText_64 rfl ?_
        refine g_iinc C dX8_periodText_65 rfl (by decide) rfl ?_
        refine g_goto (tgt := 31) C dX8_periodText_68 (by decide) ?_
        refine g_widen (k' := 18 + 3 * (j + 1)) (n' := 100 + 3000 * (j + 1)) (by omega) (by omega) ?_
        exact ih (j + 1, w61) ⟨by dsimp only; omega, (show 27 * (j + 1) = 27 * j + 16 + 11 by omega) ▸ hq⟩ (by dsimp only; omega)
      refine g_if_ne (tgt := 48) C dX8_periodText_40 (by decide) (by omega) (fun h40 => ?_) (fun h40 => ?_)
      · refine g_ldcS C hT 1 rfl dX8_periodText_48 ?_
        first | exact J50 0 (by omega) | exact J50 1 (by omega)
      · refine g_ldcS C hT 0 rfl dX8_periodText_43 ?_
        refine g_goto (tgt := 50) C dX8_periodText_45 (by decide) ?_
        first | exact J50 0 (by omega) | exact J50 1 (by omega)
  · refine g_ldcS C hT 0 rfl dX8_periodText_12 ?_
    exact g_areturn C (Or.inl ⟨_, rfl⟩) hQ (Or.inr ⟨_, rfl⟩) dX8_periodText_14 (by omega) (by omega) (by
      first
      | exact ⟨t6, _, rfl, hM6, hK6, by omega, by omega⟩)
set_option maxHeartbeats 4000000 in
set_option maxRecDepth 100000 in
theorem c_X8_middle (l : Launch) {K : KC} {E : GE} {w : Wd} {v : Int} (h_v : -2147483648 ≤ v ∧ v < 2147483648) {τ : Nat → Nat} {m : Nat} {A : MA} {th : Int} {ba st pb le ri : Nat → Int} {sp : Nat → Nat → Int} {ct : Nat → Int} (hM : MSx τ w m A th ba st pb le ri sp ct) : St K E l yX8_middle cX8_middle 3 (some (.object "java/lang/String")) 7 (60) (2000) [.ref m, iI v] w (fun r' w' => ∃ (t : Int) (s : Nat), r' = some (.ref s) ∧ MSx τ w' m A (t) (ba) (st) (pb) (le) (ri) (sp) (ct) ∧ Keep τ w w' ∧ 0 ≤ t ∧ t ≤ 2) := by
  refine st_intro [some (.ref m), some (iI v), none] rfl (Nat.le_of_ble_eq_true rfl) pn_X8 ?_
  intro X C hT hRm hl hnm hQ
  obtain ⟨hRf, hRl, hRc, hRs⟩ := hRm
  refine g_wf (fun hwf => ?_)
  refine g_aload_n C dX8_middle_0 rfl ?_
  refine g_iload_n C dX8_middle_1 rfl ?_
  refine g_callS C (c_X8_isNoBase _ (v := v) h_v) ml_RX8_152 sm_yX8_isNoBase in_RX8 co_yX8_isNoBase hd_X8_isNoBase rfl ⟨by omega, by omega⟩ rfl (Nat.le_of_ble_eq_true rfl) ⟨by omega, by omega⟩ dX8_middle_2 (fun v2 w2 hp2 => ?_)
  obtain ⟨⟨yb, rfl, hyb⟩, hw2⟩ := hp2
  subst w2
  have hyb01 : yb = 0 ∨ yb = 1 := by rcases hyb with q | q <;> omega
  refine g_iconst C dX8_middle_5 ?_
  refine g_callV C (c_X8_start _ hM (y := yb) (wh := 1) (by omega) (by omega)) (ci := 10) rfl hM.o rfl ml_RX8_149 im_yX8_start se_RX8_yX8_start in_RX8 co_yX8_start hd_X8_start rfl ⟨by omega, by omega⟩ rfl (Nat.le_of_ble_eq_true rfl) ⟨by omega, by omega⟩ dX8_middle_6 (fun v6 w6 hp6 => ?_)
  obtain ⟨t6, rfl, ht6, hM6, hK6⟩ := hp6
  have hy6 : (yb) = 0 ∨ (yb) = 1 := (by omega)
  refine g_if_ne (tgt := 21) C dX8_middle_9 (by decide) (by omega) (fun h9 => ?_) (fun h9 => ?_)
  · refine g_ldcS C hT 0 rfl dX8_middle_21 ?_
    exact g_areturn C (Or.inl ⟨_, rfl⟩) hQ (Or.inr ⟨_, rfl⟩) dX8_middle_23 (by omega) (by omega) (by
      first
      | exact ⟨t6, _, rfl, hM6.ex x1, hK6.tr (Keep.ex x1), by omega, by omega⟩
      | exact ⟨t6, _, rfl, hM6, hK6, by omega, by omega⟩)
  · have hgb : GB v := by
      rcases hyb with q | q
      · exact q.2
      · omega
    obtain ⟨r, hr⟩ := RT_ex hgb
    have hr9 := RT_le hgb hr
    refine g_iload_n C dX8_middle_12 rfl ?_
    refine g_callS C (c_X8_periodOf _ hgb hr) ml_RX8_142 sm_yX8_periodOf in_RX8 co_yX8_periodOf hd_X8_periodOf rfl ⟨by omega, by omega⟩ rfl (Nat.le_of_ble_eq_true rfl) ⟨by omega, by omega⟩ dX8_middle_13 (fun v13 w13 hp13 => ?_)
    obtain ⟨p, rfl, hper, x1⟩ := hp13
    have pp1 := hper.1
    have pp2 := hper.2.1
    refine g_iconst C dX8_middle_16 ?_
    refine g_iremN C dX8_middle_17 (by omega) (by omega) ?_
    refine g_if_ne (tgt := 24) C dX8_middle_18 (by decide) (by omega) (fun h18 => ?_) (fun h18 => ?_)
    · refine g_iload_n C dX8_middle_24 rfl ?_
      refine g_iload_n C dX8_middle_25 rfl ?_
      refine g_callS C (c_X8_periodOf _ hgb hr) ml_RX8_142 sm_yX8_periodOf in_RX8 co_yX8_periodOf hd_X8_periodOf rfl ⟨by omega, by omega⟩ rfl (Nat.le_of_ble_eq_true rfl) ⟨by omega, by omega⟩ dX8_middle_26 (fun v26 w26 hp26 => ?_)
      obtain ⟨p2, rfl, hper2, x2⟩ := hp26
      have pp3 := hper2.1
      have pp4 := hper2.2.1
      obtain ⟨K0, hK0⟩ : ∃ K0 : Nat, ((p2 : Int) + 1) / 2 = (K0 : Int) := ⟨(p2 + 1) / 2, by omega⟩
      refine g_iconst C dX8_middle_29 ?_
      refine g_iadd C dX8_middle_30 ?_
      refine g_iconst C dX8_middle_31 ?_
      refine g_idivN C dX8_middle_32 (by omega) (by omega) ?_
      rw [hK0]
      have cg := cf_good hgb hr (k := K0) (by omega)
      refine g_wf (fun hwf32 => ?_)
      refine g_callS C (c_X8_terms _ (b := v) (r := r) (K := K0) hgb hr (by omega)) ml_RX8_138 sm_yX8_terms in_RX8 co_yX8_terms hd_X8_terms rfl ⟨by omega, by omega⟩ rfl (Nat.le_of_ble_eq_true rfl) ⟨by omega, by omega⟩ dX8_middle_33 (fun v33 w33 hp33 => ?_)
      obtain ⟨f33, rfl, rfl, t0, t1, t2⟩ := hp33
      have x3 := Ex.push hwf32 (true, eI 3 f33)
      have x123 := (x1.tr x2).tr x3
      obtain ⟨u3, hu3⟩ : ∃ u3, u3 = wpush w26 (true, eI 3 f33) := ⟨_, rfl⟩
      have e33 : u3.2 w26.1 = some (true, eI 3 f33) := by rw [hu3]; exact wpush_s
      rw [← hu3] at x123
      refine g_eqw (w' := u3) hu3.symm ?_
      refine g_astore_n C dX8_middle_36 (by decide) rfl ?_
      refine g_wf (fun hwq => ?_)
      refine g_new (ci := 1) C rfl inTJ4 tyJ4 tyJ4_ok kl_RX8_86 ib_RJ4 in_RJ4 (fs := [.null, iI 0, iI 0, iI 0]) (by intro j hj; repeat (first | rfl | (cases j; rfl) | (rename_i j; cases j; rfl) | omega)) (by omega) dX8_middle_37 ?_
      refine g_dup C dX8_middle_40 rfl ?_
      refine t_callI C hT (c_J4_init_da8c8 _ wpush_s) ml_RX8_88 im_yJ4_init_da8c8 in_RJ4 co_yJ4_init_da8c8 rfl hd_J4_init_da8c8 rfl ⟨by omega, by omega⟩ rfl (Nat.le_of_ble_eq_true rfl) ⟨by omega, by omega⟩ dX8_middle_41 (fun v41 w41 hp41 => ?_)
      obtain ⟨rfl, hq0⟩ := hp41
      have hq := SBq.new hwq hq0
      have hqb := hwq
      have e41 : ∀ N z, SBq u3 z u3.1 N → z.2 w26.1 = some (true, eI 3 f33) := fun N z hz => by obtain ⟨v9, n9, m9, -, -, -, -, -, hf9⟩ := hz; rw [hf9.2 _ (hqb _ _ e33)]; exact e33
      refine g_aload_n C dX8_middle_44 rfl ?_
      refine g_iconst C dX8_middle_45 ?_
      refine g_ialoadN (0) C (e41 _ _ hq) (by omega) (by omega) dX8_middle_46 ?_
      rw [t0]
      obtain ⟨v47, n47, m47, hS47, hn47, hm47, hv47, ha47, hf47⟩ := hq
      refine t_callV C hT (c_J4_append_bf812 _ hS47 (by omega) (by omega) (by omega)) (RcV.sb C hS47) rfl ml_RX8_204 im_yJ4_append_bf812 se_RJ4_yJ4_append_bf812 in_RJ4 co_yJ4_append_bf812 hd_J4_append_bf812 rfl ⟨by omega, by omega⟩ rfl (Nat.le_of_ble_eq_true rfl) ⟨by omega, by omega⟩ dX8_middle_47 (fun v47 w47 hp47 => ?_)
      obtain ⟨rfl, x47⟩ := hp47
      replace hq := SBq.int hn47 hm47 hv47 ha47 hf47 x47
      refine g_ldcS C hT 1 rfl dX8_middle_50 ?_
      obtain ⟨v52, n52, m52, hS52, hn52, hm52, hv52, ha52, hf52⟩ := hq
      have hg52 := grow1 (i := 1) hS52 hm52
      refine t_callV C hT (c_J4_append_15ec4 _ hS52 (i := 1) (by omega) (by omega) (by omega)) (RcV.sb C hS52) rfl ml_RX8_222 im_yJ4_append_15ec4 se_RJ4_yJ4_append_15ec4 in_RJ4 co_yJ4_append_15ec4 hd_J4_append_15ec4 rfl ⟨by omega, by omega⟩ rfl (Nat.le_of_ble_eq_true rfl) ⟨by omega, by omega⟩ dX8_middle_52 (fun v52 w52 hp52 => ?_)
      obtain ⟨rfl, x52⟩ := hp52
      replace hq := SBq.str hn52 hm52 hv52 ha52 hf52 hg52 x52
      refine g_aload_n C dX8_middle_55 rfl ?_
      refine g_iconst C dX8_middle_56 ?_
      refine g_ialoadN (1) C (e41 _ _ hq) (by omega) (by omega) dX8_middle_57 ?_
      rw [t1]
      obtain ⟨v58, n58, m58, hS58, hn58, hm58, hv58, ha58, hf58⟩ := hq
      refine t_callV C hT (c_J4_append_bf812 _ hS58 (by omega) (by omega) (by omega)) (RcV.sb C hS58) rfl ml_RX8_204 im_yJ4_append_bf812 se_RJ4_yJ4_append_bf812 in_RJ4 co_yJ4_append_bf812 hd_J4_append_bf812 rfl ⟨by omega, by omega⟩ rfl (Nat.le_of_ble_eq_true rfl) ⟨by omega, by omega⟩ dX8_middle_58 (fun v58 w58 hp58 => ?_)
      obtain ⟨rfl, x58⟩ := hp58
      replace hq := SBq.int hn58 hm58 hv58 ha58 hf58 x58
      obtain ⟨v61, n61, m61, hS61, hn61, hm61, hv61, ha61, hf61⟩ := hq
      refine t_callV C hT (c_J4_toString_0e30d _ hS61 (by omega)) (RcV.sb C hS61) rfl ml_RX8_113 im_yJ4_toString_0e30d se_RJ4_yJ4_toString_0e30d in_RJ4 co_yJ4_toString_0e30d hd_J4_toString_0e30d rfl ⟨by omega, by omega⟩ rfl (Nat.le_of_ble_eq_true rfl) ⟨by omega, by omega⟩ dX8_middle_61 (fun v61 w61 hp61 => ?_)
      obtain ⟨rfl, hfr61⟩ := hp61
      have hfx := hf61.tr hfr61
      exact g_areturn C (Or.inl ⟨_, rfl⟩) hQ (Or.inr ⟨_, rfl⟩) dX8_middle_64 (by omega) (by omega) (by
        first
        | exact ⟨t6, _, rfl, hM6.ex (x123.tr (hfx.ex hqb)), hK6.tr (Keep.ex (x123.tr (hfx.ex hqb))), by omega, by omega⟩)
    · refine g_ldcS C hT 0 rfl dX8_middle_21 ?_
      exact g_areturn C (Or.inl ⟨_, rfl⟩) hQ (Or.inr ⟨_, rfl⟩) dX8_middle_23 (by omega) (by omega) (by
        first
        | exact ⟨t6, _, rfl, hM6.ex x1, hK6.tr (Keep.ex x1), by omega, by omega⟩
        | exact ⟨t6, _, rfl, hM6, hK6, by omega, by omega⟩)
set_option maxHeartbeats 4000000 in
set_option maxRecDepth 100000 in
theorem c_X8_way (l : Launch) {K : KC} {E : GE} {w : Wd} {v : Int} (h_v : -2147483648 ≤ v ∧ v < 2147483648) {τ : Nat → Nat} {m : Nat} {A : MA} {th : Int} {ba st pb le ri : Nat → Int} {sp : Nat → Nat → Int} {ct : Nat → Int} (hM : MSx τ w m A th ba st pb le ri sp ct) (hZ : HZp sp) : St K E l yX8_way cX8_way 3 (some (.object "java/lang/String")) 7 (60) (2000) [.ref m, iI v] w (fun r' w' => ∃ (t : Int) (s : Nat), r' = some (.ref s) ∧ MSx τ w' m A (t) (ba) (st) (pb) (le) (ri) (sp) (ct) ∧ Keep τ w w' ∧ 0 ≤ t ∧ t ≤ 2) := by
  refine st_intro [some (.ref m), some (iI v), none] rfl (Nat.le_of_ble_eq_true rfl) pn_X8 ?_
  intro X C hT hRm hl hnm hQ
  obtain ⟨hRf, hRl, hRc, hRs⟩ := hRm
  refine g_wf (fun hwf => ?_)
  refine g_aload_n C dX8_way_0 rfl ?_
  refine g_iload_n C dX8_way_1 rfl ?_
  refine g_callS C (c_X8_isNo _ (v := v) h_v) ml_RX8_145 sm_yX8_isNo in_RX8 co_yX8_isNo hd_X8_isNo rfl ⟨by omega, by omega⟩ rfl (Nat.le_of_ble_eq_true rfl) ⟨by omega, by omega⟩ dX8_way_2 (fun v2 w2 hp2 => ?_)
  obtain ⟨rfl, hw2⟩ := hp2
  subst w2
  refine g_iconst C dX8_way_5 ?_
  refine g_callV C (c_X8_start _ hM (y := bI (¬ (0 ≤ v ∧ v ≤ 2))) (wh := 1) (bI_01 _) (by omega)) (ci := 10) rfl hM.o rfl ml_RX8_149 im_yX8_start se_RX8_yX8_start in_RX8 co_yX8_start hd_X8_start rfl ⟨by omega, by omega⟩ rfl (Nat.le_of_ble_eq_true rfl) ⟨by omega, by omega⟩ dX8_way_6 (fun v6 w6 hp6 => ?_)
  obtain ⟨t6, rfl, ht6, hM6, hK6⟩ := hp6
  have hy6 : (bI (¬ (0 ≤ v ∧ v ≤ 2))) = 0 ∨ (bI (¬ (0 ≤ v ∧ v ≤ 2))) = 1 := (bI_01 _)
  refine g_if_eq (tgt := 15) C dX8_way_9 (by decide) (bI_r _) (fun h9 => ?_) (fun h9 => ?_)
  · have hwk : 0 ≤ v ∧ v ≤ 2 := Classical.not_not.mp (bI_0 (by omega))
    obtain ⟨V, rfl⟩ := Int.eq_ofNat_of_zero_le hwk.1
    obtain ⟨pa, ka, hSpa⟩ := hZ V (by omega)
    obtain ⟨qa, hqa, tqa, ea⟩ := hM6.Z (i := V) (by omega)
    refine g_aload_n C dX8_way_15 rfl ?_
    refine g_get (ci := 10) C rfl inTX8 6 (by decide) fl_RX8_35 rfl hM6.o rfl dX8_way_16 ?_
    refine g_iload_n C dX8_way_19 rfl ?_
    refine g_aaloadN (V) C rfl rfl hM6.z (by omega) (by omega) hqa dX8_way_20 ?_
    refine g_iconst C dX8_way_21 ?_
    refine g_ialoadN (0) C ea (by omega) (by omega) dX8_way_22 ?_
    rw [hSpa.2.1]
    refine g_wf (fun hwf22 => ?_)
    refine g_callS C (c_X8_wayOf _ (p := pa) hSpa.1.1) ml_RX8_274 sm_yX8_wayOf in_RX8 co_yX8_wayOf hd_X8_wayOf rfl ⟨by omega, by omega⟩ rfl (Nat.le_of_ble_eq_true rfl) ⟨by omega, by omega⟩ dX8_way_23 (fun v23 w23 hp23 => ?_)
    obtain ⟨q23, f23, j23, rfl, e23, sv23, f230, f231, -, -, hf23⟩ := hp23
    have x23 := hf23.ex hwf22
    obtain ⟨v1w, v2w, v3w, -⟩ := sv23.good
    have v4w := sv23.p
    have g0w : 0 ≤ f23 0 ∧ f23 0 ≤ 997 := by rw [f230]; omega
    have g1w : 0 ≤ f23 1 ∧ f23 1 ≤ 997 := by rw [f231]; omega
    refine g_astore_n C dX8_way_26 (by decide) rfl ?_
    refine g_wf (fun hwq => ?_)
    refine g_new (ci := 1) C rfl inTJ4 tyJ4 tyJ4_ok kl_RX8_86 ib_RJ4 in_RJ4 (fs := [.null, iI 0, iI 0, iI 0]) (by intro j hj; repeat (first | rfl | (cases j; rfl) | (rename_i j; cases j; rfl) | omega)) (by omega) dX8_way_27 ?_
    refine g_dup C dX8_way_30 rfl ?_
    refine t_callI C hT (c_J4_init_da8c8 _ wpush_s) ml_RX8_88 im_yJ4_init_da8c8 in_RJ4 co_yJ4_init_da8c8 rfl hd_J4_init_da8c8 rfl ⟨by omega, by omega⟩ rfl (Nat.le_of_ble_eq_true rfl) ⟨by omega, by omega⟩ dX8_way_31 (fun v31 w31 hp31 => ?_)
    obtain ⟨rfl, hq0⟩ := hp31
    have hq := SBq.new hwq hq0
    have hqb := hwq
    have e31 : ∀ N z, SBq w23 z w23.1 N → z.2 q23 = some (true, eI 2 f23) := fun N z hz => by obtain ⟨v9, n9, m9, -, -, -, -, -, hf9⟩ := hz; rw [hf9.2 _ (hqb _ _ e23)]; exact e23
    refine g_aload_n C dX8_way_34 rfl ?_
    refine g_iconst C dX8_way_35 ?_
    refine g_ialoadN (0) C (e31 _ _ hq) (by omega) (by omega) dX8_way_36 ?_
    obtain ⟨v37, n37, m37, hS37, hn37, hm37, hv37, ha37, hf37⟩ := hq
    refine t_callV C hT (c_J4_append_bf812 _ hS37 (by omega) (by omega) (by omega)) (RcV.sb C hS37) rfl ml_RX8_204 im_yJ4_append_bf812 se_RJ4_yJ4_append_bf812 in_RJ4 co_yJ4_append_bf812 hd_J4_append_bf812 rfl ⟨by omega, by omega⟩ rfl (Nat.le_of_ble_eq_true rfl) ⟨by omega, by omega⟩ dX8_way_37 (fun v37 w37 hp37 => ?_)
    obtain ⟨rfl, x37⟩ := hp37
    replace hq := SBq.int hn37 hm37 hv37 ha37 hf37 x37
    refine g_ldcS C hT 1 rfl dX8_way_40 ?_
    obtain ⟨v42, n42, m42, hS42, hn42, hm42, hv42, ha42, hf42⟩ := hq
    have hg42 := grow1 (i := 1) hS42 hm42
    refine t_callV C hT (c_J4_append_15ec4 _ hS42 (i := 1) (by omega) (by omega) (by omega)) (RcV.sb C hS42) rfl ml_RX8_222 im_yJ4_append_15ec4 se_RJ4_yJ4_append_15ec4 in_RJ4 co_yJ4_append_15ec4 hd_J4_append_15ec4 rfl ⟨by omega, by omega⟩ rfl (Nat.le_of_ble_eq_true rfl) ⟨by omega, by omega⟩ dX8_way_42 (fun v42 w42 hp42 => ?_)
    obtain ⟨rfl, x42⟩ := hp42
    replace hq := SBq.str hn42 hm42 hv42 ha42 hf42 hg42 x42
    refine g_aload_n C dX8_way_45 rfl ?_
    refine g_iconst C dX8_way_46 ?_
    refine g_ialoadN (1) C (e31 _ _ hq) (by omega) (by omega) dX8_way_47 ?_
    obtain ⟨v48, n48, m48, hS48, hn48, hm48, hv48, ha48, hf48⟩ := hq
    refine t_callV C hT (c_J4_append_bf812 _ hS48 (by omega) (by omega) (by omega)) (RcV.sb C hS48) rfl ml_RX8_204 im_yJ4_append_bf812 se_RJ4_yJ4_append_bf812 in_RJ4 co_yJ4_append_bf812 hd_J4_append_bf812 rfl ⟨by omega, by omega⟩ rfl (Nat.le_of_ble_eq_true rfl) ⟨by omega, by omega⟩ dX8_way_48 (fun v48 w48 hp48 => ?_)
    obtain ⟨rfl, x48⟩ := hp48
    replace hq := SBq.int hn48 hm48 hv48 ha48 hf48 x48
    obtain ⟨v51, n51, m51, hS51, hn51, hm51, hv51, ha51, hf51⟩ := hq
    refine t_callV C hT (c_J4_toString_0e30d _ hS51 (by omega)) (RcV.sb C hS51) rfl ml_RX8_113 im_yJ4_toString_0e30d se_RJ4_yJ4_toString_0e30d in_RJ4 co_yJ4_toString_0e30d hd_J4_toString_0e30d rfl ⟨by omega, by omega⟩ rfl (Nat.le_of_ble_eq_true rfl) ⟨by omega, by omega⟩ dX8_way_51 (fun v51 w51 hp51 => ?_)
    obtain ⟨rfl, hfr51⟩ := hp51
    have hfx := hf51.tr hfr51
    exact g_areturn C (Or.inl ⟨_, rfl⟩) hQ (Or.inr ⟨_, rfl⟩) dX8_way_54 (by omega) (by omega) (by
      first
      | exact ⟨t6, _, rfl, hM6.ex (x23.tr (hfx.ex hqb)), hK6.tr (Keep.ex (x23.tr (hfx.ex hqb))), by omega, by omega⟩)
  · refine g_ldcS C hT 0 rfl dX8_way_12 ?_
    exact g_areturn C (Or.inl ⟨_, rfl⟩) hQ (Or.inr ⟨_, rfl⟩) dX8_way_14 (by omega) (by omega) (by
      first
      | exact ⟨t6, _, rfl, hM6, hK6, by omega, by omega⟩)
set_option maxHeartbeats 4000000 in
set_option maxRecDepth 100000 in
theorem c_X8_product_ (l : Launch) {K : KC} {E : GE} {w : Wd} {v x : Int} (h_v : -2147483648 ≤ v ∧ v < 2147483648) (h_x : -2147483648 ≤ x ∧ x < 2147483648) {τ : Nat → Nat} {m : Nat} {A : MA} {th : Int} {ba st pb le ri : Nat → Int} {sp : Nat → Nat → Int} {ct : Nat → Int} (hM : MSx τ w m A th ba st pb le ri sp ct) (hZ : HZp sp) : St K E l yX8_product_ cX8_product_ 5 (some (.object "java/lang/String")) 7 (90) (4000) [.ref m, iI v, iI x] w (fun r' w' => ∃ (t : Int) (s : Nat), r' = some (.ref s) ∧ MSx τ w' m A (t) (ba) (st) (pb) (le) (ri) (sp) (ct) ∧ Keep τ w w' ∧ 0 ≤ t ∧ t ≤ 2) := by
  refine st_intro [some (.ref m), some (iI v), some (iI x), none, none] rfl (Nat.le_of_ble_eq_true rfl) pn_X8 ?_
  intro X C hT hRm hl hnm hQ
  obtain ⟨hRf, hRl, hRc, hRs⟩ := hRm
  refine g_wf (fun hwf => ?_)
  refine g_aload_n C dX8_product__0 rfl ?_
  refine g_iload_n C dX8_product__1 rfl ?_
  refine g_callS C (c_X8_isNo _ (v := v) h_v) ml_RX8_145 sm_yX8_isNo in_RX8 co_yX8_isNo hd_X8_isNo rfl ⟨by omega, by omega⟩ rfl (Nat.le_of_ble_eq_true rfl) ⟨by omega, by omega⟩ dX8_product__2 (fun v2 w2 hp2 => ?_)
  obtain ⟨rfl, hw2⟩ := hp2
  subst w2
  have J20 : ∀ y : Int, (y = 0 ∧ (0 ≤ v ∧ v ≤ 2) ∧ (0 ≤ x ∧ x ≤ 2) ∨ y = 1 ∧ ¬ ((0 ≤ v ∧ v ≤ 2) ∧ (0 ≤ x ∧ x ≤ 2))) → G E X 5 20 [some (.ref m), some (iI v), some (iI x), none, none] [iI y, .ref m] w 0 0 := by
    intro y hy
    refine g_iconst C dX8_product__20 ?_
    refine g_callV C (c_X8_start _ hM (y := y) (wh := 1) (by omega) (by omega)) (ci := 10) rfl hM.o rfl ml_RX8_149 im_yX8_start se_RX8_yX8_start in_RX8 co_yX8_start hd_X8_start rfl ⟨by omega, by omega⟩ rfl (Nat.le_of_ble_eq_true rfl) ⟨by omega, by omega⟩ dX8_product__21 (fun v21 w21 hp21 => ?_)
    obtain ⟨t6, rfl, ht6, hM6, hK6⟩ := hp21
    have hy6 : (y) = 0 ∨ (y) = 1 := (by omega)
    refine g_if_eq (tgt := 30) C dX8_product__24 (by decide) (by omega) (fun h24 => ?_) (fun h24 => ?_)
    · have ht06 : 0 ≤ t6 ∧ t6 ≤ 2 := by omega
      obtain ⟨V, rfl⟩ := Int.eq_ofNat_of_zero_le (show 0 ≤ v by omega)
      obtain ⟨U, rfl⟩ := Int.eq_ofNat_of_zero_le (show 0 ≤ x by omega)
      obtain ⟨pa, ka, hSpa⟩ := hZ V (by omega)
      obtain ⟨qa, hqa, tqa, ea⟩ := hM6.Z (i := V) (by omega)
      obtain ⟨pb9, kb, hSpb⟩ := hZ U (by omega)
      obtain ⟨qb, hqb, tqb, eb⟩ := hM6.Z (i := U) (by omega)
      refine g_aload_n C dX8_product__30 rfl ?_
      refine g_get (ci := 10) C rfl inTX8 6 (by decide) fl_RX8_35 rfl hM6.o rfl dX8_product__31 ?_
      refine g_iload_n C dX8_product__34 rfl ?_
      refine g_aaloadN (V) C rfl rfl hM6.z (by omega) (by omega) hqa dX8_product__35 ?_
      refine g_iconst C dX8_product__36 ?_
      refine g_ialoadN (0) C ea (by omega) (by omega) dX8_product__37 ?_
      rw [hSpa.2.1]
      refine g_wf (fun hwf37 => ?_)
      refine g_callS C (c_X8_wayOf _ (p := pa) hSpa.1.1) ml_RX8_274 sm_yX8_wayOf in_RX8 co_yX8_wayOf hd_X8_wayOf rfl ⟨by omega, by omega⟩ rfl (Nat.le_of_ble_eq_true rfl) ⟨by omega, by omega⟩ dX8_product__38 (fun v38 w38 hp38 => ?_)
      obtain ⟨q38, f38, j38, rfl, e38, sv38, f380, f381, -, -, hf38⟩ := hp38
      have x38 := hf38.ex hwf37
      have hM8 := hM6.ex x38
      obtain ⟨v1w, v2w, v3w, -⟩ := sv38.good
      have v4w := sv38.p
      have g0w : 0 ≤ f38 0 ∧ f38 0 ≤ 997 := by rw [f380]; omega
      have g1w : 0 ≤ f38 1 ∧ f38 1 ≤ 997 := by rw [f381]; omega
      refine g_astore_n C dX8_product__41 (by decide) rfl ?_
      refine g_aload_n C dX8_product__42 rfl ?_
      refine g_get (ci := 10) C rfl inTX8 6 (by decide) fl_RX8_35 rfl hM8.o rfl dX8_product__43 ?_
      refine g_iload_n C dX8_product__46 rfl ?_
      refine g_aaloadN (U) C rfl rfl hM8.z (by omega) (by omega) hqb dX8_product__47 ?_
      refine g_iconst C dX8_product__48 ?_
      refine g_ialoadN (0) C (x38.2 _ _ eb) (by omega) (by omega) dX8_product__49 ?_
      rw [hSpb.2.1]
      refine g_wf (fun hwf49 => ?_)
      refine g_callS C (c_X8_wayOf _ (p := pb9) hSpb.1.1) ml_RX8_274 sm_yX8_wayOf in_RX8 co_yX8_wayOf hd_X8_wayOf rfl ⟨by omega, by omega⟩ rfl (Nat.le_of_ble_eq_true rfl) ⟨by omega, by omega⟩ dX8_product__50 (fun v50 w50 hp50 => ?_)
      obtain ⟨q50, f50, j50, rfl, e50, sv50, f500, f501, -, -, hf50⟩ := hp50
      have x50 := x38.tr (hf50.ex hwf49)
      have e38b := (hf50.ex hwf49).2 _ _ e38
      obtain ⟨v1z, v2z, v3z, -⟩ := sv50.good
      have v4z := sv50.p
      have g0z : 0 ≤ f50 0 ∧ f50 0 ≤ 997 := by rw [f500]; omega
      have g1z : 0 ≤ f50 1 ∧ f50 1 ≤ 997 := by rw [f501]; omega
      have m00 := mulb g0w g0z
      have m11 := mulb g1w g1z
      have m01 := mulb g0w g1z
      have m10 := mulb g1w g0z
      generalize hA0 : f38 0 * f50 0 = A0 at *
      generalize hA1 : f38 1 * f50 1 = A1 at *
      generalize hA2 : f38 0 * f50 1 = A2 at *
      generalize hA3 : f38 1 * f50 0 = A3 at *
      refine g_astore C dX8_product__53 (by decide) rfl ?_
      refine g_wf (fun hwq => ?_)
      refine g_new (ci := 1) C rfl inTJ4 tyJ4 tyJ4_ok kl_RX8_86 ib_RJ4 in_RJ4 (fs := [.null, iI 0, iI 0, iI 0]) (by intro j hj; repeat (first | rfl | (cases j; rfl) | (rename_i j; cases j; rfl) | omega)) (by omega) dX8_product__55 ?_
      refine g_dup C dX8_product__58 rfl ?_
      refine t_callI C hT (c_J4_init_da8c8 _ wpush_s) ml_RX8_88 im_yJ4_init_da8c8 in_RJ4 co_yJ4_init_da8c8 rfl hd_J4_init_da8c8 rfl ⟨by omega, by omega⟩ rfl (Nat.le_of_ble_eq_true rfl) ⟨by omega, by omega⟩ dX8_product__59 (fun v59 w59 hp59 => ?_)
      obtain ⟨rfl, hq0⟩ := hp59
      have hq := SBq.new hwq hq0
      have hqB := hwq
      have e5a : ∀ N z, SBq w50 z w50.1 N → z.2 q38 = some (true, eI 2 f38) := fun N z hz => by obtain ⟨v9, n9, m9, -, -, -, -, -, hf9⟩ := hz; rw [hf9.2 _ (hqB _ _ e38b)]; exact e38b
      have e5b : ∀ N z, SBq w50 z w50.1 N → z.2 q50 = some (true, eI 2 f50) := fun N z hz => by obtain ⟨v9, n9, m9, -, -, -, -, -, hf9⟩ := hz; rw [hf9.2 _ (hqB _ _ e50)]; exact e50
      refine g_aload_n C dX8_product__62 rfl ?_
      refine g_iconst C dX8_product__63 ?_
      refine g_ialoadN (0) C (e5a _ _ hq) (by omega) (by omega) dX8_product__64 ?_
      refine g_aload C dX8_product__65 rfl ?_
      refine g_iconst C dX8_product__67 ?_
      refine g_ialoadN (0) C (e5b _ _ hq) (by omega) (by omega) dX8_product__68 ?_
      refine g_imul C dX8_product__69 ?_
      rw [hA0]
      refine g_aload_n C dX8_product__70 rfl ?_
      refine g_iconst C dX8_product__71 ?_
      refine g_ialoadN (1) C (e5a _ _ hq) (by omega) (by omega) dX8_product__72 ?_
      refine g_aload C dX8_product__73 rfl ?_
      refine g_iconst C dX8_product__75 ?_
      refine g_ialoadN (1) C (e5b _ _ hq) (by omega) (by omega) dX8_product__76 ?_
      refine g_imul C dX8_product__77 ?_
      rw [hA1]
      refine g_iadd C dX8_product__78 ?_
      obtain ⟨v79, n79, m79, hS79, hn79, hm79, hv79, ha79, hf79⟩ := hq
      refine t_callV C hT (c_J4_append_bf812 _ hS79 (by omega) (by omega) (by omega)) (RcV.sb C hS79) rfl ml_RX8_204 im_yJ4_append_bf812 se_RJ4_yJ4_append_bf812 in_RJ4 co_yJ4_append_bf812 hd_J4_append_bf812 rfl ⟨by omega, by omega⟩ rfl (Nat.le_of_ble_eq_true rfl) ⟨by omega, by omega⟩ dX8_product__79 (fun v79 w79 hp79 => ?_)
      obtain ⟨rfl, x79⟩ := hp79
      replace hq := SBq.int hn79 hm79 hv79 ha79 hf79 x79
      refine g_ldcS C hT 1 rfl dX8_product__82 ?_
      obtain ⟨v84, n84, m84, hS84, hn84, hm84, hv84, ha84, hf84⟩ := hq
      have hg84 := grow1 (i := 1) hS84 hm84
      refine t_callV C hT (c_J4_append_15ec4 _ hS84 (i := 1) (by omega) (by omega) (by omega)) (RcV.sb C hS84) rfl ml_RX8_222 im_yJ4_append_15ec4 se_RJ4_yJ4_append_15ec4 in_RJ4 co_yJ4_append_15ec4 hd_J4_append_15ec4 rfl ⟨by omega, by omega⟩ rfl (Nat.le_of_ble_eq_true rfl) ⟨by omega, by omega⟩ dX8_product__84 (fun v84 w84 hp84 => ?_)
      obtain ⟨rfl, x84⟩ := hp84
      replace hq := SBq.str hn84 hm84 hv84 ha84 hf84 hg84 x84
      refine g_aload_n C dX8_product__87 rfl ?_
      refine g_iconst C dX8_product__88 ?_
      refine g_ialoadN (0) C (e5a _ _ hq) (by omega) (by omega) dX8_product__89 ?_
      refine g_aload C dX8_product__90 rfl ?_
      refine g_iconst C dX8_product__92 ?_
      refine g_ialoadN (1) C (e5b _ _ hq) (by omega) (by omega) dX8_product__93 ?_
      refine g_imul C dX8_product__94 ?_
      rw [hA2]
      refine g_aload_n C dX8_product__95 rfl ?_
      refine g_iconst C dX8_product__96 ?_
      refine g_ialoadN (1) C (e5a _ _ hq) (by omega) (by omega) dX8_product__97 ?_
      refine g_aload C dX8_product__98 rfl ?_
      refine g_iconst C dX8_product__100 ?_
      refine g_ialoadN (0) C (e5b _ _ hq) (by omega) (by omega) dX8_product__101 ?_
      refine g_imul C dX8_product__102 ?_
      rw [hA3]
      refine g_isub C dX8_product__103 ?_
      refine g_abs C ml_RX8_196 (by omega) (by omega) (by omega) (Nat.le_of_ble_eq_true rfl) (by omega) dX8_product__104 ?_
      obtain ⟨v107, n107, m107, hS107, hn107, hm107, hv107, ha107, hf107⟩ := hq
      refine t_callV C hT (c_J4_append_bf812 _ hS107 (by split <;> omega) (by omega) (by omega)) (RcV.sb C hS107) rfl ml_RX8_204 im_yJ4_append_bf812 se_RJ4_yJ4_append_bf812 in_RJ4 co_yJ4_append_bf812 hd_J4_append_bf812 rfl ⟨by omega, by omega⟩ rfl (Nat.le_of_ble_eq_true rfl) ⟨by omega, by omega⟩ dX8_product__107 (fun v107 w107 hp107 => ?_)
      obtain ⟨rfl, x107⟩ := hp107
      replace hq := SBq.int hn107 hm107 hv107 ha107 hf107 x107
      refine g_ldcS C hT 1 rfl dX8_product__110 ?_
      obtain ⟨v112, n112, m112, hS112, hn112, hm112, hv112, ha112, hf112⟩ := hq
      have hg112 := grow1 (i := 1) hS112 hm112
      refine t_callV C hT (c_J4_append_15ec4 _ hS112 (i := 1) (by omega) (by omega) (by omega)) (RcV.sb C hS112) rfl ml_RX8_222 im_yJ4_append_15ec4 se_RJ4_yJ4_append_15ec4 in_RJ4 co_yJ4_append_15ec4 hd_J4_append_15ec4 rfl ⟨by omega, by omega⟩ rfl (Nat.le_of_ble_eq_true rfl) ⟨by omega, by omega⟩ dX8_product__112 (fun v112 w112 hp112 => ?_)
      obtain ⟨rfl, x112⟩ := hp112
      replace hq := SBq.str hn112 hm112 hv112 ha112 hf112 hg112 x112
      refine g_aload_n C dX8_product__115 rfl ?_
      refine g_iconst C dX8_product__116 ?_
      refine g_ialoadN (0) C (e5a _ _ hq) (by omega) (by omega) dX8_product__117 ?_
      refine g_aload C dX8_product__118 rfl ?_
      refine g_iconst C dX8_product__120 ?_
      refine g_ialoadN (0) C (e5b _ _ hq) (by omega) (by omega) dX8_product__121 ?_
      refine g_imul C dX8_product__122 ?_
      rw [hA0]
      refine g_aload_n C dX8_product__123 rfl ?_
      refine g_iconst C dX8_product__124 ?_
      refine g_ialoadN (1) C (e5a _ _ hq) (by omega) (by omega) dX8_product__125 ?_
      refine g_aload C dX8_product__126 rfl ?_
      refine g_iconst C dX8_product__128 ?_
      refine g_ialoadN (1) C (e5b _ _ hq) (by omega) (by omega) dX8_product__129 ?_
      refine g_imul C dX8_product__130 ?_
      rw [hA1]
      refine g_isub C dX8_product__131 ?_
      refine g_abs C ml_RX8_196 (by omega) (by omega) (by omega) (Nat.le_of_ble_eq_true rfl) (by omega) dX8_product__132 ?_
      obtain ⟨v135, n135, m135, hS135, hn135, hm135, hv135, ha135, hf135⟩ := hq
      refine t_callV C hT (c_J4_append_bf812 _ hS135 (by split <;> omega) (by omega) (by omega)) (RcV.sb C hS135) rfl ml_RX8_204 im_yJ4_append_bf812 se_RJ4_yJ4_append_bf812 in_RJ4 co_yJ4_append_bf812 hd_J4_append_bf812 rfl ⟨by omega, by omega⟩ rfl (Nat.le_of_ble_eq_true rfl) ⟨by omega, by omega⟩ dX8_product__135 (fun v135 w135 hp135 => ?_)
      obtain ⟨rfl, x135⟩ := hp135
      replace hq := SBq.int hn135 hm135 hv135 ha135 hf135 x135
      refine g_ldcS C hT 1 rfl dX8_product__138 ?_
      obtain ⟨v140, n140, m140, hS140, hn140, hm140, hv140, ha140, hf140⟩ := hq
      have hg140 := grow1 (i := 1) hS140 hm140
      refine t_callV C hT (c_J4_append_15ec4 _ hS140 (i := 1) (by omega) (by omega) (by omega)) (RcV.sb C hS140) rfl ml_RX8_222 im_yJ4_append_15ec4 se_RJ4_yJ4_append_15ec4 in_RJ4 co_yJ4_append_15ec4 hd_J4_append_15ec4 rfl ⟨by omega, by omega⟩ rfl (Nat.le_of_ble_eq_true rfl) ⟨by omega, by omega⟩ dX8_product__140 (fun v140 w140 hp140 => ?_)
      obtain ⟨rfl, x140⟩ := hp140
      replace hq := SBq.str hn140 hm140 hv140 ha140 hf140 hg140 x140
      refine g_aload_n C dX8_product__143 rfl ?_
      refine g_iconst C dX8_product__144 ?_
      refine g_ialoadN (0) C (e5a _ _ hq) (by omega) (by omega) dX8_product__145 ?_
      refine g_aload C dX8_product__146 rfl ?_
      refine g_iconst C dX8_product__148 ?_
      refine g_ialoadN (1) C (e5b _ _ hq) (by omega) (by omega) dX8_product__149 ?_
      refine g_imul C dX8_product__150 ?_
      rw [hA2]
      refine g_aload_n C dX8_product__151 rfl ?_
      refine g_iconst C dX8_product__152 ?_
      refine g_ialoadN (1) C (e5a _ _ hq) (by omega) (by omega) dX8_product__153 ?_
      refine g_aload C dX8_product__154 rfl ?_
      refine g_iconst C dX8_product__156 ?_
      refine g_ialoadN (0) C (e5b _ _ hq) (by omega) (by omega) dX8_product__157 ?_
      refine g_imul C dX8_product__158 ?_
      rw [hA3]
      refine g_iadd C dX8_product__159 ?_
      obtain ⟨v160, n160, m160, hS160, hn160, hm160, hv160, ha160, hf160⟩ := hq
      refine t_callV C hT (c_J4_append_bf812 _ hS160 (by omega) (by omega) (by omega)) (RcV.sb C hS160) rfl ml_RX8_204 im_yJ4_append_bf812 se_RJ4_yJ4_append_bf812 in_RJ4 co_yJ4_append_bf812 hd_J4_append_bf812 rfl ⟨by omega, by omega⟩ rfl (Nat.le_of_ble_eq_true rfl) ⟨by omega, by omega⟩ dX8_product__160 (fun v160 w160 hp160 => ?_)
      obtain ⟨rfl, x160⟩ := hp160
      replace hq := SBq.int hn160 hm160 hv160 ha160 hf160 x160
      obtain ⟨v163, n163, m163, hS163, hn163, hm163, hv163, ha163, hf163⟩ := hq
      refine t_callV C hT (c_J4_toString_0e30d _ hS163 (by omega)) (RcV.sb C hS163) rfl ml_RX8_113 im_yJ4_toString_0e30d se_RJ4_yJ4_toString_0e30d in_RJ4 co_yJ4_toString_0e30d hd_J4_toString_0e30d rfl ⟨by omega, by omega⟩ rfl (Nat.le_of_ble_eq_true rfl) ⟨by omega, by omega⟩ dX8_product__163 (fun v163 w163 hp163 => ?_)
      obtain ⟨rfl, hfr163⟩ := hp163
      have hfx := hf163.tr hfr163
      exact g_areturn C (Or.inl ⟨_, rfl⟩) hQ (Or.inr ⟨_, rfl⟩) dX8_product__166 (by omega) (by omega) (by
        first
        | exact ⟨t6, _, rfl, hM6.ex (x50.tr (hfx.ex hqB)), hK6.tr (Keep.ex (x50.tr (hfx.ex hqB))), ht06.1, ht06.2⟩)
    · refine g_ldcS C hT 0 rfl dX8_product__27 ?_
      exact g_areturn C (Or.inl ⟨_, rfl⟩) hQ (Or.inr ⟨_, rfl⟩) dX8_product__29 (by omega) (by omega) (by
        first
        | exact ⟨t6, _, rfl, hM6, hK6, by omega, by omega⟩)
  refine g_if_ne (tgt := 15) C dX8_product__5 (by decide) (bI_r _) (fun h5 => ?_) (fun h5 => ?_)
  · refine g_iconst C dX8_product__15 ?_
    refine g_goto (tgt := 20) C dX8_product__16 (by decide) ?_
    exact J20 _ (by first | (have := bI_1 h5; exact Or.inr ⟨rfl, by omega⟩) | (have := bI_1 h12; exact Or.inr ⟨rfl, by omega⟩) | (have := bI_0 (Classical.not_not.mp h5); have := bI_0 h12; exact Or.inl ⟨rfl, by omega, by omega⟩))
  · refine g_iload_n C dX8_product__8 rfl ?_
    refine g_callS C (c_X8_isNo _ (v := x) h_x) ml_RX8_145 sm_yX8_isNo in_RX8 co_yX8_isNo hd_X8_isNo rfl ⟨by omega, by omega⟩ rfl (Nat.le_of_ble_eq_true rfl) ⟨by omega, by omega⟩ dX8_product__9 (fun v9 w9 hp9 => ?_)
    obtain ⟨rfl, hw9⟩ := hp9
    subst w9
    refine g_if_eq (tgt := 19) C dX8_product__12 (by decide) (bI_r _) (fun h12 => ?_) (fun h12 => ?_)
    · refine g_iconst C dX8_product__19 ?_
      exact J20 _ (by first | (have := bI_1 h5; exact Or.inr ⟨rfl, by omega⟩) | (have := bI_1 h12; exact Or.inr ⟨rfl, by omega⟩) | (have := bI_0 (Classical.not_not.mp h5); have := bI_0 h12; exact Or.inl ⟨rfl, by omega, by omega⟩))
    · refine g_iconst C dX8_product__15 ?_
      refine g_goto (tgt := 20) C dX8_product__16 (by decide) ?_
      exact J20 _ (by first | (have := bI_1 h5; exact Or.inr ⟨rfl, by omega⟩) | (have := bI_1 h12; exact Or.inr ⟨rfl, by omega⟩) | (have := bI_0 (Classical.not_not.mp h5); have := bI_0 h12; exact Or.inl ⟨rfl, by omega, by omega⟩))
/-! the model's constructor -/
def itg (k : Nat) : Nat := if k = 0 then 2 else if k = 1 then 3 else if k = 2 then 4 else if k = 3 then 5 else if k = 10 then 6 else if k = 17 then 7 else if k = 21 then 8 else if k = 18 then 10 else if k = 19 then 11 else if k = 20 then 12 else 9
def itag (τ : Nat → Nat) (n : Nat) : Nat → Nat := fun a => if a < n then τ a else itg (a - n)
theorem itag_lo {τ : Nat → Nat} {n a : Nat} (h : a < n) : itag τ n a = τ a := if_pos h
theorem itag_hi {τ : Nat → Nat} {n a : Nat} (k : Nat) (h : a = n + k) : itag τ n a = itg k := by
  subst h
  unfold itag
  rw [if_neg (by omega), show n + k - n = k by omega]
/-- all cells but one stay -/
def ExX (w u : Wd) (m : Nat) : Prop := w.1 ≤ u.1 ∧ ∀ a x, a ≠ m → w.2 a = some x → u.2 a = some x
theorem ExX.rf (w : Wd) (m : Nat) : ExX w w m := ⟨Nat.le_refl _, fun _ _ _ h => h⟩
theorem ExX.tr {w u v : Wd} {m : Nat} (h : ExX w u m) (g : ExX u v m) : ExX w v m := ⟨Nat.le_trans h.1 g.1, fun a x n e => g.2 a x n (h.2 a x n e)⟩
theorem Ex.exx {w u : Wd} (h : Ex w u) (m : Nat) : ExX w u m := ⟨h.1, fun a x _ e => h.2 a x e⟩
theorem ExX.set (w : Wd) (m : Nat) (e : WdE) : ExX w (wset w m e) m := ⟨Nat.le_refl _, fun a x n h => by rw [wset_n n]; exact h⟩
theorem ExX.keep {τ : Nat → Nat} {w u : Wd} {m : Nat} (h : ExX w u m) (ht : τ m < 100) : Keep τ w u := ⟨h.1, fun a x t e => h.2 a x (fun q => by subst q; omega) e⟩
theorem RowAt.exx {w u : Wd} {a c m : Nat} {z : Int} (h : RowAt w a z c) (x : ExX w u m) (ha : a ≠ m) : RowAt u a z c := by
  obtain ⟨n, f, h1, h2, h3⟩ := h
  exact ⟨n, f, x.2 _ _ ha h1, h2, h3⟩
set_option maxHeartbeats 4000000 in
set_option maxRecDepth 100000 in
theorem c_X8_init (l : Launch) {E : GE} {w : Wd} {τ : Nat → Nat} {m : Nat} (hN : w.2 m = some (true, eO 10 [iI 0, .null, .null, .null, .null, .null, .null, .null])) (ht : τ m = 1) : Sp E l yX8_init cX8_init 1 none 5 (22) (89) [.ref m] w (fun r' w' => ∃ (τ' : Nat → Nat) (A : MA) (ba st pb le ri : Nat → Int) (sp : Nat → Nat → Int) (ct : Nat → Int), r' = none ∧ (∀ a, a < w.1 → τ' a = τ a) ∧ MSx τ' w' m A 0 ba st pb le ri sp ct ∧ Keep τ w w' ∧ (∀ i, i < 3 → ba i = 2 ∧ st i = 0 ∧ pb i = 2 ∧ le i = 1 ∧ ri i = 0 ∧ SpR (sp i) 5 0) ∧ (∀ i, ct i = 0) ∧ w'.1 = w.1 + 22) := by
  refine sp_intro [some (.ref m)] rfl (Nat.le_of_ble_eq_true rfl) pn_X8 ?_
  intro X C hRm hl hnm hQ
  obtain ⟨hRf, hRl, hRc, hRs⟩ := hRm
  refine g_wf (fun hwf => ?_)
  have hmw : m < w.1 := hwf m _ hN
  have z0 : w.1 = w.1 := rfl
  refine g_aload_n C dX8_init_0 rfl ?_
  refine g_objInit C ml_RX8_3 (by omega) (by omega) (Nat.le_of_ble_eq_true rfl) dX8_init_1 ?_
  refine g_aload_n C dX8_init_4 rfl ?_
  refine g_iconst C dX8_init_5 ?_
  refine g_newI C gw_arrayClass_int (N := 3) rfl (by omega) (by omega) dX8_init_6 ?_
  refine g_dup C dX8_init_8 rfl ?_
  refine g_iconst C dX8_init_9 ?_
  refine g_iconst C dX8_init_10 ?_
  refine g_iastoreN (0) C wpush_s (by omega) (by omega) dX8_init_11 ?_
  rw [wset_push]
  refine g_dup C dX8_init_12 rfl ?_
  refine g_iconst C dX8_init_13 ?_
  refine g_iconst C dX8_init_14 ?_
  refine g_iastoreN (1) C wpush_s (by omega) (by omega) dX8_init_15 ?_
  rw [wset_push]
  refine g_dup C dX8_init_16 rfl ?_
  refine g_iconst C dX8_init_17 ?_
  refine g_iconst C dX8_init_18 ?_
  refine g_iastoreN (2) C wpush_s (by omega) (by omega) dX8_init_19 ?_
  rw [wset_push]
  refine g_putF (ci := 10) C rfl inTX8 tyX8 tyX8_ok nmX8 1 (by decide) fl_RX8_9 rfl rfl hnm rfl (by rw [wpush_n (by omega)]; exact hN) (Nat.le_of_ble_eq_true rfl) rfl rfl dX8_init_20 ?_
  obtain ⟨u1, hu1⟩ : ∃ u1, u1 = wset (wpush w (true, eI 3 (iup (iup (iup (fun _ => 0) 0 2) 1 2) 2 2))) m (true, eO 10 [iI 0, .ref w.1, .null, .null, .null, .null, .null, .null]) := ⟨_, rfl⟩
  have ou1 : u1.2 m = some (true, eO 10 [iI 0, .ref w.1, .null, .null, .null, .null, .null, .null]) := by rw [hu1]; exact wset_s
  have zu1 : u1.1 = (wpush w (true, eI 3 (iup (iup (iup (fun _ => 0) 0 2) 1 2) 2 2))).1 := by rw [hu1]; rfl
  have yu1 : ExX (wpush w (true, eI 3 (iup (iup (iup (fun _ => 0) 0 2) 1 2) 2 2))) u1 m := by rw [hu1]; exact ExX.set _ _ _
  refine g_eqw (w' := u1) hu1.symm ?_
  refine g_wf (fun fu1 => ?_)
  have rb : u1.2 w.1 = some (true, eI 3 (iup (iup (iup (fun _ => 0) 0 2) 1 2) 2 2)) := yu1.2 _ _ (by omega) wpush_s
  have xu1 : ExX w u1 m := ((Ex.push hwf _).exx m).tr yu1
  have nu1 : u1.1 = w.1 + 1 := zu1
  refine g_aload_n C dX8_init_23 rfl ?_
  refine g_iconst C dX8_init_24 ?_
  refine g_newI C gw_arrayClass_int (N := 3) rfl (by omega) (by omega) dX8_init_25 ?_
  refine g_putF (ci := 10) C rfl inTX8 tyX8 tyX8_ok nmX8 2 (by decide) fl_RX8_13 rfl rfl hnm rfl (by rw [wpush_n (by omega)]; exact ou1) (Nat.le_of_ble_eq_true rfl) rfl rfl dX8_init_27 ?_
  obtain ⟨u2, hu2⟩ : ∃ u2, u2 = wset (wpush u1 (true, eI 3 (fun _ => 0))) m (true, eO 10 [iI 0, .ref w.1, .ref u1.1, .null, .null, .null, .null, .null]) := ⟨_, rfl⟩
  have ou2 : u2.2 m = some (true, eO 10 [iI 0, .ref w.1, .ref u1.1, .null, .null, .null, .null, .null]) := by rw [hu2]; exact wset_s
  have zu2 : u2.1 = (wpush u1 (true, eI 3 (fun _ => 0))).1 := by rw [hu2]; rfl
  have yu2 : ExX (wpush u1 (true, eI 3 (fun _ => 0))) u2 m := by rw [hu2]; exact ExX.set _ _ _
  refine g_eqw (w' := u2) hu2.symm ?_
  refine g_wf (fun fu2 => ?_)
  have rs : u2.2 u1.1 = some (true, eI 3 (fun _ => 0)) := yu2.2 _ _ (by omega) wpush_s
  have xu2 : ExX u1 u2 m := ((Ex.push fu1 _).exx m).tr yu2
  have nu2 : u2.1 = u1.1 + 1 := zu2
  refine g_aload_n C dX8_init_30 rfl ?_
  refine g_iconst C dX8_init_31 ?_
  refine g_newI C gw_arrayClass_int (N := 3) rfl (by omega) (by omega) dX8_init_32 ?_
  refine g_dup C dX8_init_34 rfl ?_
  refine g_iconst C dX8_init_35 ?_
  refine g_iconst C dX8_init_36 ?_
  refine g_iastoreN (0) C wpush_s (by omega) (by omega) dX8_init_37 ?_
  rw [wset_push]
  refine g_dup C dX8_init_38 rfl ?_
  refine g_iconst C dX8_init_39 ?_
  refine g_iconst C dX8_init_40 ?_
  refine g_iastoreN (1) C wpush_s (by omega) (by omega) dX8_init_41 ?_
  rw [wset_push]
  refine g_dup C dX8_init_42 rfl ?_
  refine g_iconst C dX8_init_43 ?_
  refine g_iconst C dX8_init_44 ?_
  refine g_iastoreN (2) C wpush_s (by omega) (by omega) dX8_init_45 ?_
  rw [wset_push]
  refine g_putF (ci := 10) C rfl inTX8 tyX8 tyX8_ok nmX8 3 (by decide) fl_RX8_16 rfl rfl hnm rfl (by rw [wpush_n (by omega)]; exact ou2) (Nat.le_of_ble_eq_true rfl) rfl rfl dX8_init_46 ?_
  obtain ⟨u3, hu3⟩ : ∃ u3, u3 = wset (wpush u2 (true, eI 3 (iup (iup (iup (fun _ => 0) 0 2) 1 2) 2 2))) m (true, eO 10 [iI 0, .ref w.1, .ref u1.1, .ref u2.1, .null, .null, .null, .null]) := ⟨_, rfl⟩
  have ou3 : u3.2 m = some (true, eO 10 [iI 0, .ref w.1, .ref u1.1, .ref u2.1, .null, .null, .null, .null]) := by rw [hu3]; exact wset_s
  have zu3 : u3.1 = (wpush u2 (true, eI 3 (iup (iup (iup (fun _ => 0) 0 2) 1 2) 2 2))).1 := by rw [hu3]; rfl
  have yu3 : ExX (wpush u2 (true, eI 3 (iup (iup (iup (fun _ => 0) 0 2) 1 2) 2 2))) u3 m := by rw [hu3]; exact ExX.set _ _ _
  refine g_eqw (w' := u3) hu3.symm ?_
  refine g_wf (fun fu3 => ?_)
  have rp : u3.2 u2.1 = some (true, eI 3 (iup (iup (iup (fun _ => 0) 0 2) 1 2) 2 2)) := yu3.2 _ _ (by omega) wpush_s
  have xu3 : ExX u2 u3 m := ((Ex.push fu2 _).exx m).tr yu3
  have nu3 : u3.1 = u2.1 + 1 := zu3
  refine g_aload_n C dX8_init_49 rfl ?_
  refine g_iconst C dX8_init_50 ?_
  refine g_anewI C kl_RX8_19 (N := 3) rfl (by omega) (by omega) dX8_init_51 ?_
  obtain ⟨u4a, hu4a⟩ : ∃ u4a, u4a = wpush u3 (true, eR 2 3 (fun _ => none)) := ⟨_, rfl⟩
  have xu4a : Ex u3 u4a := by rw [hu4a]; exact Ex.push fu3 _
  have ru4a : u4a.2 u3.1 = some (true, eR 2 3 (fun _ => none)) := by rw [hu4a]; exact wpush_s
  have nu4a : u4a.1 = u3.1 + 1 := by rw [hu4a]; rfl
  refine g_eqw (w' := u4a) hu4a.symm ?_
  refine g_wf (fun fu4a => ?_)
  refine g_dup C dX8_init_54 rfl ?_
  refine g_iconst C dX8_init_55 ?_
  refine g_lconst (z := 1) C dX8_init_56 (by decide) ?_
  refine g_callS C (c_X8_of _ (v := 1) (by omega)) ml_RX8_20 sm_yX8_of in_RX8 co_yX8_of hd_X8_of rfl ⟨by omega, by omega⟩ rfl (Nat.le_of_ble_eq_true rfl) ⟨by omega, by omega⟩ dX8_init_57 (fun v57 w57 hp57 => ?_)
  obtain ⟨m57, g57, rfl, e57, b57, c57, s57, k57⟩ := hp57
  refine g_aastoreI C 0 (k57.2 _ _ ru4a) e57 rfl (by omega) dX8_init_60 ?_
  obtain ⟨u4b, hu4b⟩ : ∃ u4b, u4b = wset w57 u3.1 (true, eR 2 3 (rup (fun _ => none) 0 (some (u4a.1 + 1)))) := ⟨_, rfl⟩
  have nu4b : u4b.1 = u4a.1 + 2 := by rw [hu4b]; exact s57
  have ru4b : u4b.2 u3.1 = some (true, eR 2 3 (rup (fun _ => none) 0 (some (u4a.1 + 1)))) := by rw [hu4b]; exact wset_s
  have qu4b : RowAt u4b (u4a.1 + 1) 1 4 := ⟨m57, g57, by rw [hu4b, wset_n (by omega)]; exact e57, b57, c57⟩
  have xu4b : ExX u4a u4b u3.1 := (k57.exx _).tr (by rw [hu4b]; exact ExX.set _ _ _)
  refine g_eqw (w' := u4b) hu4b.symm ?_
  refine g_wf (fun fu4b => ?_)
  refine g_dup C dX8_init_61 rfl ?_
  refine g_iconst C dX8_init_62 ?_
  refine g_lconst (z := 1) C dX8_init_63 (by decide) ?_
  refine g_callS C (c_X8_of _ (v := 1) (by omega)) ml_RX8_20 sm_yX8_of in_RX8 co_yX8_of hd_X8_of rfl ⟨by omega, by omega⟩ rfl (Nat.le_of_ble_eq_true rfl) ⟨by omega, by omega⟩ dX8_init_64 (fun v64 w64 hp64 => ?_)
  obtain ⟨m64, g64, rfl, e64, b64, c64, s64, k64⟩ := hp64
  refine g_aastoreI C 1 (k64.2 _ _ ru4b) e64 rfl (by omega) dX8_init_67 ?_
  obtain ⟨u4c, hu4c⟩ : ∃ u4c, u4c = wset w64 u3.1 (true, eR 2 3 (rup (rup (fun _ => none) 0 (some (u4a.1 + 1))) 1 (some (u4b.1 + 1)))) := ⟨_, rfl⟩
  have nu4c : u4c.1 = u4b.1 + 2 := by rw [hu4c]; exact s64
  have ru4c : u4c.2 u3.1 = some (true, eR 2 3 (rup (rup (fun _ => none) 0 (some (u4a.1 + 1))) 1 (some (u4b.1 + 1)))) := by rw [hu4c]; exact wset_s
  have qu4c : RowAt u4c (u4b.1 + 1) 1 4 := ⟨m64, g64, by rw [hu4c, wset_n (by omega)]; exact e64, b64, c64⟩
  have xu4c : ExX u4b u4c u3.1 := (k64.exx _).tr (by rw [hu4c]; exact ExX.set _ _ _)
  refine g_eqw (w' := u4c) hu4c.symm ?_
  refine g_wf (fun fu4c => ?_)
  refine g_dup C dX8_init_68 rfl ?_
  refine g_iconst C dX8_init_69 ?_
  refine g_lconst (z := 1) C dX8_init_70 (by decide) ?_
  refine g_callS C (c_X8_of _ (v := 1) (by omega)) ml_RX8_20 sm_yX8_of in_RX8 co_yX8_of hd_X8_of rfl ⟨by omega, by omega⟩ rfl (Nat.le_of_ble_eq_true rfl) ⟨by omega, by omega⟩ dX8_init_71 (fun v71 w71 hp71 => ?_)
  obtain ⟨m71, g71, rfl, e71, b71, c71, s71, k71⟩ := hp71
  refine g_aastoreI C 2 (k71.2 _ _ ru4c) e71 rfl (by omega) dX8_init_74 ?_
  obtain ⟨u4d, hu4d⟩ : ∃ u4d, u4d = wset w71 u3.1 (true, eR 2 3 (rup (rup (rup (fun _ => none) 0 (some (u4a.1 + 1))) 1 (some (u4b.1 + 1))) 2 (some (u4c.1 + 1)))) := ⟨_, rfl⟩
  have nu4d : u4d.1 = u4c.1 + 2 := by rw [hu4d]; exact s71
  have ru4d : u4d.2 u3.1 = some (true, eR 2 3 (rup (rup (rup (fun _ => none) 0 (some (u4a.1 + 1))) 1 (some (u4b.1 + 1))) 2 (some (u4c.1 + 1)))) := by rw [hu4d]; exact wset_s
  have qu4d : RowAt u4d (u4c.1 + 1) 1 4 := ⟨m71, g71, by rw [hu4d, wset_n (by omega)]; exact e71, b71, c71⟩
  have xu4d : ExX u4c u4d u3.1 := (k71.exx _).tr (by rw [hu4d]; exact ExX.set _ _ _)
  refine g_eqw (w' := u4d) hu4d.symm ?_
  refine g_wf (fun fu4d => ?_)
  refine g_putF (ci := 10) C rfl inTX8 tyX8 tyX8_ok nmX8 4 (by decide) fl_RX8_24 rfl rfl hnm rfl (xu4d.2 _ _ (by omega) (xu4c.2 _ _ (by omega) (xu4b.2 _ _ (by omega) (xu4a.2 _ _ ou3)))) (Nat.le_of_ble_eq_true rfl) rfl rfl dX8_init_75 ?_
  obtain ⟨u4, hu4⟩ : ∃ u4, u4 = wset u4d m (true, eO 10 [iI 0, .ref w.1, .ref u1.1, .ref u2.1, .ref u3.1, .null, .null, .null]) := ⟨_, rfl⟩
  have ou4 : u4.2 m = some (true, eO 10 [iI 0, .ref w.1, .ref u1.1, .ref u2.1, .ref u3.1, .null, .null, .null]) := by rw [hu4]; exact wset_s
  have zu4 : u4.1 = u4d.1 := by rw [hu4]; rfl
  have yu4 : ExX u4d u4 m := by rw [hu4]; exact ExX.set _ _ _
  refine g_eqw (w' := u4) hu4.symm ?_
  refine g_wf (fun fu4 => ?_)
  have qu40 : RowAt u4 (u4a.1 + 1) 1 4 := (((qu4b.exx xu4c (by omega)).exx xu4d (by omega)).exx yu4 (by omega))
  have qu41 : RowAt u4 (u4b.1 + 1) 1 4 := ((qu4c.exx xu4d (by omega)).exx yu4 (by omega))
  have qu42 : RowAt u4 (u4c.1 + 1) 1 4 := (qu4d.exx yu4 (by omega))
  have rl : u4.2 u3.1 = some (true, eR 2 3 (rup (rup (rup (fun _ => none) 0 (some (u4a.1 + 1))) 1 (some (u4b.1 + 1))) 2 (some (u4c.1 + 1)))) := yu4.2 _ _ (by omega) ru4d
  have xu4 : ExX u3 u4 m := ⟨by omega, fun a x hn h => by
    have ha := fu3 a x h
    exact yu4.2 _ _ hn (xu4d.2 _ _ (by omega) (xu4c.2 _ _ (by omega) (xu4b.2 _ _ (by omega) (xu4a.2 _ _ h))))⟩
  have nu4 : u4.1 = u3.1 + 7 := by omega
  refine g_aload_n C dX8_init_78 rfl ?_
  refine g_iconst C dX8_init_79 ?_
  refine g_anewI C kl_RX8_19 (N := 3) rfl (by omega) (by omega) dX8_init_80 ?_
  obtain ⟨u5a, hu5a⟩ : ∃ u5a, u5a = wpush u4 (true, eR 2 3 (fun _ => none)) := ⟨_, rfl⟩
  have xu5a : Ex u4 u5a := by rw [hu5a]; exact Ex.push fu4 _
  have ru5a : u5a.2 u4.1 = some (true, eR 2 3 (fun _ => none)) := by rw [hu5a]; exact wpush_s
  have nu5a : u5a.1 = u4.1 + 1 := by rw [hu5a]; rfl
  refine g_eqw (w' := u5a) hu5a.symm ?_
  refine g_wf (fun fu5a => ?_)
  refine g_dup C dX8_init_83 rfl ?_
  refine g_iconst C dX8_init_84 ?_
  refine g_lconst (z := 0) C dX8_init_85 (by decide) ?_
  refine g_callS C (c_X8_of _ (v := 0) (by omega)) ml_RX8_20 sm_yX8_of in_RX8 co_yX8_of hd_X8_of rfl ⟨by omega, by omega⟩ rfl (Nat.le_of_ble_eq_true rfl) ⟨by omega, by omega⟩ dX8_init_86 (fun v86 w86 hp86 => ?_)
  obtain ⟨m86, g86, rfl, e86, b86, c86, s86, k86⟩ := hp86
  refine g_aastoreI C 0 (k86.2 _ _ ru5a) e86 rfl (by omega) dX8_init_89 ?_
  obtain ⟨u5b, hu5b⟩ : ∃ u5b, u5b = wset w86 u4.1 (true, eR 2 3 (rup (fun _ => none) 0 (some (u5a.1 + 1)))) := ⟨_, rfl⟩
  have nu5b : u5b.1 = u5a.1 + 2 := by rw [hu5b]; exact s86
  have ru5b : u5b.2 u4.1 = some (true, eR 2 3 (rup (fun _ => none) 0 (some (u5a.1 + 1)))) := by rw [hu5b]; exact wset_s
  have qu5b : RowAt u5b (u5a.1 + 1) 0 4 := ⟨m86, g86, by rw [hu5b, wset_n (by omega)]; exact e86, b86, c86⟩
  have xu5b : ExX u5a u5b u4.1 := (k86.exx _).tr (by rw [hu5b]; exact ExX.set _ _ _)
  refine g_eqw (w' := u5b) hu5b.symm ?_
  refine g_wf (fun fu5b => ?_)
  refine g_dup C dX8_init_90 rfl ?_
  refine g_iconst C dX8_init_91 ?_
  refine g_lconst (z := 0) C dX8_init_92 (by decide) ?_
  refine g_callS C (c_X8_of _ (v := 0) (by omega)) ml_RX8_20 sm_yX8_of in_RX8 co_yX8_of hd_X8_of rfl ⟨by omega, by omega⟩ rfl (Nat.le_of_ble_eq_true rfl) ⟨by omega, by omega⟩ dX8_init_93 (fun v93 w93 hp93 => ?_)
  obtain ⟨m93, g93, rfl, e93, b93, c93, s93, k93⟩ := hp93
  refine g_aastoreI C 1 (k93.2 _ _ ru5b) e93 rfl (by omega) dX8_init_96 ?_
  obtain ⟨u5c, hu5c⟩ : ∃ u5c, u5c = wset w93 u4.1 (true, eR 2 3 (rup (rup (fun _ => none) 0 (some (u5a.1 + 1))) 1 (some (u5b.1 + 1)))) := ⟨_, rfl⟩
  have nu5c : u5c.1 = u5b.1 + 2 := by rw [hu5c]; exact s93
  have ru5c : u5c.2 u4.1 = some (true, eR 2 3 (rup (rup (fun _ => none) 0 (some (u5a.1 + 1))) 1 (some (u5b.1 + 1)))) := by rw [hu5c]; exact wset_s
  have qu5c : RowAt u5c (u5b.1 + 1) 0 4 := ⟨m93, g93, by rw [hu5c, wset_n (by omega)]; exact e93, b93, c93⟩
  have xu5c : ExX u5b u5c u4.1 := (k93.exx _).tr (by rw [hu5c]; exact ExX.set _ _ _)
  refine g_eqw (w' := u5c) hu5c.symm ?_
  refine g_wf (fun fu5c => ?_)
  refine g_dup C dX8_init_97 rfl ?_
  refine g_iconst C dX8_init_98 ?_
  refine g_lconst (z := 0) C dX8_init_99 (by decide) ?_
  refine g_callS C (c_X8_of _ (v := 0) (by omega)) ml_RX8_20 sm_yX8_of in_RX8 co_yX8_of hd_X8_of rfl ⟨by omega, by omega⟩ rfl (Nat.le_of_ble_eq_true rfl) ⟨by omega, by omega⟩ dX8_init_100 (fun v100 w100 hp100 => ?_)
  obtain ⟨m100, g100, rfl, e100, b100, c100, s100, k100⟩ := hp100
  refine g_aastoreI C 2 (k100.2 _ _ ru5c) e100 rfl (by omega) dX8_init_103 ?_
  obtain ⟨u5d, hu5d⟩ : ∃ u5d, u5d = wset w100 u4.1 (true, eR 2 3 (rup (rup (rup (fun _ => none) 0 (some (u5a.1 + 1))) 1 (some (u5b.1 + 1))) 2 (some (u5c.1 + 1)))) := ⟨_, rfl⟩
  have nu5d : u5d.1 = u5c.1 + 2 := by rw [hu5d]; exact s100
  have ru5d : u5d.2 u4.1 = some (true, eR 2 3 (rup (rup (rup (fun _ => none) 0 (some (u5a.1 + 1))) 1 (some (u5b.1 + 1))) 2 (some (u5c.1 + 1)))) := by rw [hu5d]; exact wset_s
  have qu5d : RowAt u5d (u5c.1 + 1) 0 4 := ⟨m100, g100, by rw [hu5d, wset_n (by omega)]; exact e100, b100, c100⟩
  have xu5d : ExX u5c u5d u4.1 := (k100.exx _).tr (by rw [hu5d]; exact ExX.set _ _ _)
  refine g_eqw (w' := u5d) hu5d.symm ?_
  refine g_wf (fun fu5d => ?_)
  refine g_putF (ci := 10) C rfl inTX8 tyX8 tyX8_ok nmX8 5 (by decide) fl_RX8_28 rfl rfl hnm rfl (xu5d.2 _ _ (by omega) (xu5c.2 _ _ (by omega) (xu5b.2 _ _ (by omega) (xu5a.2 _ _ ou4)))) (Nat.le_of_ble_eq_true rfl) rfl rfl dX8_init_104 ?_
  obtain ⟨u5, hu5⟩ : ∃ u5, u5 = wset u5d m (true, eO 10 [iI 0, .ref w.1, .ref u1.1, .ref u2.1, .ref u3.1, .ref u4.1, .null, .null]) := ⟨_, rfl⟩
  have ou5 : u5.2 m = some (true, eO 10 [iI 0, .ref w.1, .ref u1.1, .ref u2.1, .ref u3.1, .ref u4.1, .null, .null]) := by rw [hu5]; exact wset_s
  have zu5 : u5.1 = u5d.1 := by rw [hu5]; rfl
  have yu5 : ExX u5d u5 m := by rw [hu5]; exact ExX.set _ _ _
  refine g_eqw (w' := u5) hu5.symm ?_
  refine g_wf (fun fu5 => ?_)
  have qu50 : RowAt u5 (u5a.1 + 1) 0 4 := (((qu5b.exx xu5c (by omega)).exx xu5d (by omega)).exx yu5 (by omega))
  have qu51 : RowAt u5 (u5b.1 + 1) 0 4 := ((qu5c.exx xu5d (by omega)).exx yu5 (by omega))
  have qu52 : RowAt u5 (u5c.1 + 1) 0 4 := (qu5d.exx yu5 (by omega))
  have rr : u5.2 u4.1 = some (true, eR 2 3 (rup (rup (rup (fun _ => none) 0 (some (u5a.1 + 1))) 1 (some (u5b.1 + 1))) 2 (some (u5c.1 + 1)))) := yu5.2 _ _ (by omega) ru5d
  have xu5 : ExX u4 u5 m := ⟨by omega, fun a x hn h => by
    have ha := fu4 a x h
    exact yu5.2 _ _ hn (xu5d.2 _ _ (by omega) (xu5c.2 _ _ (by omega) (xu5b.2 _ _ (by omega) (xu5a.2 _ _ h))))⟩
  have nu5 : u5.1 = u4.1 + 7 := by omega
  refine g_aload_n C dX8_init_107 rfl ?_
  refine g_iconst C dX8_init_108 ?_
  refine g_anewI C kl_RX8_19 (N := 3) rfl (by omega) (by omega) dX8_init_109 ?_
  obtain ⟨u6a, hu6a⟩ : ∃ u6a, u6a = wpush u5 (true, eR 2 3 (fun _ => none)) := ⟨_, rfl⟩
  have xu6a : Ex u5 u6a := by rw [hu6a]; exact Ex.push fu5 _
  have ru6a : u6a.2 u5.1 = some (true, eR 2 3 (fun _ => none)) := by rw [hu6a]; exact wpush_s
  have nu6a : u6a.1 = u5.1 + 1 := by rw [hu6a]; rfl
  refine g_eqw (w' := u6a) hu6a.symm ?_
  refine g_wf (fun fu6a => ?_)
  refine g_dup C dX8_init_112 rfl ?_
  refine g_iconst C dX8_init_113 ?_
  refine g_iconst C dX8_init_114 ?_
  refine g_callS C (c_X8_begun _ (p := 5) (by decide +kernel)) ml_RX8_31 sm_yX8_begun in_RX8 co_yX8_begun hd_X8_begun rfl ⟨by omega, by omega⟩ rfl (Nat.le_of_ble_eq_true rfl) ⟨by omega, by omega⟩ dX8_init_115 (fun v115 w115 hp115 => ?_)
  obtain ⟨f115, rfl, rfl, s115⟩ := hp115
  refine g_aastoreI C 0 ((Ex.push fu6a _).2 _ _ ru6a) wpush_s rfl (by omega) dX8_init_118 ?_
  obtain ⟨u6b, hu6b⟩ : ∃ u6b, u6b = wset (wpush u6a (true, eI 6 f115)) u5.1 (true, eR 2 3 (rup (fun _ => none) 0 (some u6a.1))) := ⟨_, rfl⟩
  have nu6b : u6b.1 = u6a.1 + 1 := by rw [hu6b]; rfl
  have ru6b : u6b.2 u5.1 = some (true, eR 2 3 (rup (fun _ => none) 0 (some u6a.1))) := by rw [hu6b]; exact wset_s
  have qu6b : u6b.2 u6a.1 = some (true, eI 6 f115) := by rw [hu6b, wset_n (by omega)]; exact wpush_s
  have xu6b : ExX u6a u6b u5.1 := ((Ex.push fu6a (true, eI 6 f115)).exx _).tr (by rw [hu6b]; exact ExX.set _ _ _)
  refine g_eqw (w' := u6b) hu6b.symm ?_
  refine g_wf (fun fu6b => ?_)
  refine g_dup C dX8_init_119 rfl ?_
  refine g_iconst C dX8_init_120 ?_
  refine g_iconst C dX8_init_121 ?_
  refine g_callS C (c_X8_begun _ (p := 5) (by decide +kernel)) ml_RX8_31 sm_yX8_begun in_RX8 co_yX8_begun hd_X8_begun rfl ⟨by omega, by omega⟩ rfl (Nat.le_of_ble_eq_true rfl) ⟨by omega, by omega⟩ dX8_init_122 (fun v122 w122 hp122 => ?_)
  obtain ⟨f122, rfl, rfl, s122⟩ := hp122
  refine g_aastoreI C 1 ((Ex.push fu6b _).2 _ _ ru6b) wpush_s rfl (by omega) dX8_init_125 ?_
  obtain ⟨u6c, hu6c⟩ : ∃ u6c, u6c = wset (wpush u6b (true, eI 6 f122)) u5.1 (true, eR 2 3 (rup (rup (fun _ => none) 0 (some u6a.1)) 1 (some u6b.1))) := ⟨_, rfl⟩
  have nu6c : u6c.1 = u6b.1 + 1 := by rw [hu6c]; rfl
  have ru6c : u6c.2 u5.1 = some (true, eR 2 3 (rup (rup (fun _ => none) 0 (some u6a.1)) 1 (some u6b.1))) := by rw [hu6c]; exact wset_s
  have qu6c : u6c.2 u6b.1 = some (true, eI 6 f122) := by rw [hu6c, wset_n (by omega)]; exact wpush_s
  have xu6c : ExX u6b u6c u5.1 := ((Ex.push fu6b (true, eI 6 f122)).exx _).tr (by rw [hu6c]; exact ExX.set _ _ _)
  refine g_eqw (w' := u6c) hu6c.symm ?_
  refine g_wf (fun fu6c => ?_)
  refine g_dup C dX8_init_126 rfl ?_
  refine g_iconst C dX8_init_127 ?_
  refine g_iconst C dX8_init_128 ?_
  refine g_callS C (c_X8_begun _ (p := 5) (by decide +kernel)) ml_RX8_31 sm_yX8_begun in_RX8 co_yX8_begun hd_X8_begun rfl ⟨by omega, by omega⟩ rfl (Nat.le_of_ble_eq_true rfl) ⟨by omega, by omega⟩ dX8_init_129 (fun v129 w129 hp129 => ?_)
  obtain ⟨f129, rfl, rfl, s129⟩ := hp129
  refine g_aastoreI C 2 ((Ex.push fu6c _).2 _ _ ru6c) wpush_s rfl (by omega) dX8_init_132 ?_
  obtain ⟨u6d, hu6d⟩ : ∃ u6d, u6d = wset (wpush u6c (true, eI 6 f129)) u5.1 (true, eR 2 3 (rup (rup (rup (fun _ => none) 0 (some u6a.1)) 1 (some u6b.1)) 2 (some u6c.1))) := ⟨_, rfl⟩
  have nu6d : u6d.1 = u6c.1 + 1 := by rw [hu6d]; rfl
  have ru6d : u6d.2 u5.1 = some (true, eR 2 3 (rup (rup (rup (fun _ => none) 0 (some u6a.1)) 1 (some u6b.1)) 2 (some u6c.1))) := by rw [hu6d]; exact wset_s
  have qu6d : u6d.2 u6c.1 = some (true, eI 6 f129) := by rw [hu6d, wset_n (by omega)]; exact wpush_s
  have xu6d : ExX u6c u6d u5.1 := ((Ex.push fu6c (true, eI 6 f129)).exx _).tr (by rw [hu6d]; exact ExX.set _ _ _)
  refine g_eqw (w' := u6d) hu6d.symm ?_
  refine g_wf (fun fu6d => ?_)
  refine g_putF (ci := 10) C rfl inTX8 tyX8 tyX8_ok nmX8 6 (by decide) fl_RX8_35 rfl rfl hnm rfl (xu6d.2 _ _ (by omega) (xu6c.2 _ _ (by omega) (xu6b.2 _ _ (by omega) (xu6a.2 _ _ ou5)))) (Nat.le_of_ble_eq_true rfl) rfl rfl dX8_init_133 ?_
  obtain ⟨u6, hu6⟩ : ∃ u6, u6 = wset u6d m (true, eO 10 [iI 0, .ref w.1, .ref u1.1, .ref u2.1, .ref u3.1, .ref u4.1, .ref u5.1, .null]) := ⟨_, rfl⟩
  have ou6 : u6.2 m = some (true, eO 10 [iI 0, .ref w.1, .ref u1.1, .ref u2.1, .ref u3.1, .ref u4.1, .ref u5.1, .null]) := by rw [hu6]; exact wset_s
  have zu6 : u6.1 = u6d.1 := by rw [hu6]; rfl
  have yu6 : ExX u6d u6 m := by rw [hu6]; exact ExX.set _ _ _
  refine g_eqw (w' := u6) hu6.symm ?_
  refine g_wf (fun fu6 => ?_)
  have qu60 : u6.2 u6a.1 = some (true, eI 6 f115) := (yu6.2 _ _ (by omega) (xu6d.2 _ _ (by omega) (xu6c.2 _ _ (by omega) qu6b)))
  have qu61 : u6.2 u6b.1 = some (true, eI 6 f122) := (yu6.2 _ _ (by omega) (xu6d.2 _ _ (by omega) qu6c))
  have qu62 : u6.2 u6c.1 = some (true, eI 6 f129) := (yu6.2 _ _ (by omega) qu6d)
  have rz : u6.2 u5.1 = some (true, eR 2 3 (rup (rup (rup (fun _ => none) 0 (some u6a.1)) 1 (some u6b.1)) 2 (some u6c.1))) := yu6.2 _ _ (by omega) ru6d
  have xu6 : ExX u5 u6 m := ⟨by omega, fun a x hn h => by
    have ha := fu5 a x h
    exact yu6.2 _ _ hn (xu6d.2 _ _ (by omega) (xu6c.2 _ _ (by omega) (xu6b.2 _ _ (by omega) (xu6a.2 _ _ h))))⟩
  have nu6 : u6.1 = u5.1 + 4 := by omega
  refine g_aload_n C dX8_init_136 rfl ?_
  refine g_iconst C dX8_init_137 ?_
  refine g_newI C gw_arrayClass_int (N := 5) rfl (by omega) (by omega) dX8_init_138 ?_
  refine g_putF (ci := 10) C rfl inTX8 tyX8 tyX8_ok nmX8 7 (by decide) fl_RX8_38 rfl rfl hnm rfl (by rw [wpush_n (by omega)]; exact ou6) (Nat.le_of_ble_eq_true rfl) rfl rfl dX8_init_140 ?_
  obtain ⟨u7, hu7⟩ : ∃ u7, u7 = wset (wpush u6 (true, eI 5 (fun _ => 0))) m (true, eO 10 [iI 0, .ref w.1, .ref u1.1, .ref u2.1, .ref u3.1, .ref u4.1, .ref u5.1, .ref u6.1]) := ⟨_, rfl⟩
  have ou7 : u7.2 m = some (true, eO 10 [iI 0, .ref w.1, .ref u1.1, .ref u2.1, .ref u3.1, .ref u4.1, .ref u5.1, .ref u6.1]) := by rw [hu7]; exact wset_s
  have zu7 : u7.1 = (wpush u6 (true, eI 5 (fun _ => 0))).1 := by rw [hu7]; rfl
  have yu7 : ExX (wpush u6 (true, eI 5 (fun _ => 0))) u7 m := by rw [hu7]; exact ExX.set _ _ _
  refine g_eqw (w' := u7) hu7.symm ?_
  refine g_wf (fun fu7 => ?_)
  have rc : u7.2 u6.1 = some (true, eI 5 (fun _ => 0)) := yu7.2 _ _ (by omega) wpush_s
  have xu7 : ExX u6 u7 m := ((Ex.push fu6 _).exx m).tr yu7
  have nu7 : u7.1 = u6.1 + 1 := zu7
  have Rb := (xu7.2 _ _ (by omega) (xu6.2 _ _ (by omega) (xu5.2 _ _ (by omega) (xu4.2 _ _ (by omega) (xu3.2 _ _ (by omega) (xu2.2 _ _ (by omega) rb))))))
  have Rs := (xu7.2 _ _ (by omega) (xu6.2 _ _ (by omega) (xu5.2 _ _ (by omega) (xu4.2 _ _ (by omega) (xu3.2 _ _ (by omega) rs)))))
  have Rp := (xu7.2 _ _ (by omega) (xu6.2 _ _ (by omega) (xu5.2 _ _ (by omega) (xu4.2 _ _ (by omega) rp))))
  have Rl := (xu7.2 _ _ (by omega) (xu6.2 _ _ (by omega) (xu5.2 _ _ (by omega) rl)))
  have Rr := (xu7.2 _ _ (by omega) (xu6.2 _ _ (by omega) rr))
  have Rz := (xu7.2 _ _ (by omega) rz)
  have QL0 := (((qu40.exx xu5 (by omega)).exx xu6 (by omega)).exx xu7 (by omega))
  have QL1 := (((qu41.exx xu5 (by omega)).exx xu6 (by omega)).exx xu7 (by omega))
  have QL2 := (((qu42.exx xu5 (by omega)).exx xu6 (by omega)).exx xu7 (by omega))
  have QR0 := ((qu50.exx xu6 (by omega)).exx xu7 (by omega))
  have QR1 := ((qu51.exx xu6 (by omega)).exx xu7 (by omega))
  have QR2 := ((qu52.exx xu6 (by omega)).exx xu7 (by omega))
  have QZ0 := (xu7.2 _ _ (by omega) qu60)
  have QZ1 := (xu7.2 _ _ (by omega) qu61)
  have QZ2 := (xu7.2 _ _ (by omega) qu62)
  exact g_return C hQ dX8_init_143 (by omega) (by omega) ⟨itag τ w.1, (w.1, u1.1, u2.1, u3.1, u4.1, u5.1, u6.1, (rup (rup (rup (fun _ => none) 0 (some (u4a.1 + 1))) 1 (some (u4b.1 + 1))) 2 (some (u4c.1 + 1))), (rup (rup (rup (fun _ => none) 0 (some (u5a.1 + 1))) 1 (some (u5b.1 + 1))) 2 (some (u5c.1 + 1))), (rup (rup (rup (fun _ => none) 0 (some u6a.1)) 1 (some u6b.1)) 2 (some u6c.1))), (iup (iup (iup (fun _ => 0) 0 2) 1 2) 2 2), (fun _ => 0), (iup (iup (iup (fun _ => 0) 0 2) 1 2) 2 2), (fun _ => 1), (fun _ => 0), (fun i => if i = 0 then f115 else if i = 1 then f122 else f129), (fun _ => 0), rfl, fun a ha => itag_lo ha, ⟨ou7,
    ⟨(itag_lo hmw).trans ht, itag_hi 0 rfl, itag_hi 1 (show u1.1 = w.1 + 1 by omega), itag_hi 2 (show u2.1 = w.1 + 2 by omega), itag_hi 3 (show u3.1 = w.1 + 3 by omega), itag_hi 10 (show u4.1 = w.1 + 10 by omega), itag_hi 17 (show u5.1 = w.1 + 17 by omega), itag_hi 21 (show u6.1 = w.1 + 21 by omega)⟩,
    ⟨Rb, Rs, Rp, rc⟩, ⟨Rl, Rr, Rz⟩, fun i hi => by
      rcases (show i = 0 ∨ i = 1 ∨ i = 2 by omega) with q | q | q <;> subst q
      · exact ⟨_, rfl, itag_hi 5 (show u4a.1 + 1 = w.1 + 5 by omega), QL0⟩
      · exact ⟨_, rfl, itag_hi 7 (show u4b.1 + 1 = w.1 + 7 by omega), QL1⟩
      · exact ⟨_, rfl, itag_hi 9 (show u4c.1 + 1 = w.1 + 9 by omega), QL2⟩,
    fun i hi => by
      rcases (show i = 0 ∨ i = 1 ∨ i = 2 by omega) with q | q | q <;> subst q
      · exact ⟨_, rfl, itag_hi 12 (show u5a.1 + 1 = w.1 + 12 by omega), QR0⟩
      · exact ⟨_, rfl, itag_hi 14 (show u5b.1 + 1 = w.1 + 14 by omega), QR1⟩
      · exact ⟨_, rfl, itag_hi 16 (show u5c.1 + 1 = w.1 + 16 by omega), QR2⟩,
    fun i hi => by
      rcases (show i = 0 ∨ i = 1 ∨ i = 2 by omega) with q | q | q <;> subst q
      · exact ⟨_, rfl, itag_hi 18 (show u6a.1 = w.1 + 18 by omega), QZ0⟩
      · exact ⟨_, rfl, itag_hi 19 (show u6b.1 = w.1 + 19 by omega), QZ1⟩
      · exact ⟨_, rfl, itag_hi 20 (show u6c.1 = w.1 + 20 by omega), QZ2⟩⟩, ((((((xu1.tr xu2).tr xu3).tr xu4).tr xu5).tr xu6).tr xu7).keep (by omega), fun i hi => by
      rcases (show i = 0 ∨ i = 1 ∨ i = 2 by omega) with q | q | q <;> subst q
      · exact ⟨rfl, rfl, rfl, rfl, rfl, s115⟩
      · exact ⟨rfl, rfl, rfl, rfl, rfl, s122⟩
      · exact ⟨rfl, rfl, rfl, rfl, rfl, s129⟩, fun i => rfl, by omega⟩
