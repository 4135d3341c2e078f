/-! calls of a nest mate's private members -/
theorem HT.nest {K : KC} {E : GE} {U : State} {H : Heap} (h : HT K E U H) (i : Nat) {own host : String} {index : Nat} {y : MethodName} (hn : nWs[i]? = some (own, index, y, host)) : va_Nw (.methodLinkNest own index y host) U := h.2.2.2.2.2.2.2.2 i _ hn
theorem t_nS {K : KC} {E X own cc nL ret pc L st st0 w k n} (C : CX E X own cc nL ret) (hT : HT K E (xs X) (xs X).heap) {y : MethodName} {bytes : ByteArray} {maxL : Nat} {rt : Option FieldType} {dep mc ms index nA : Nat} {host : String} {av : List Value} {Post : Option Value → Wd → Prop} (hS : St K E (xl X) y bytes maxL rt dep mc ms av w Post)
    (i : Nat) (hn : nWs[i]? = some (own, index, y, host)) (sm : Cond.static y ∈ GT) (ini : Cond.initialized y.cls ∈ GT) (co : Cond.code y bytes maxL rt ∈ GT)
    (hd : y.cls ≠ "java/lang/invoke/MethodHandle" ∧ y.cls ≠ "java/lang/invoke/VarHandle" ∧ (parseMethodDescriptor y.desc).map (fun d => d.parameters.length) = some nA) (hA : av.length = nA)
    (hR : dep + 1 ≤ (xR X).frames ∧ 8 + (maxL + 11) + 64 * dep ≤ (xR X).locals) (hst : st0 = av.reverse ++ st) (hcat : (st.map fun v => v.category).sum ≤ 8) (hf : k + mc ≤ (xR X).cells ∧ n + ms ≤ (xR X).slots) (d : decode cc pc = .ok (.invokestatic index, 3))
    (kk : ∀ v w', Post v w' → G E X nL (pc + 3) L (v.toList ++ st) w' (k + mc) (n + ms)) : G E X nL pc L st0 w k n := by
  refine g_run (a := av.toArray) C (fun H locs ls h1 h2 h3 => ?_) kk
  exact va_runSN (Ts := GT) ⟨C.ex, C.co, C.ml, C.ow, C.ts⟩ hS ⟨va_cnB nA C.ts (gt_gi (fun w hw => by
      rcases List.mem_cons.mp hw with rfl | h
      · exact co
      · exact h)) rfl rfl rfl (hT.nest i hn) (C.ts _ ini) hd hR, C.ts _ sm, trivial⟩
    ⟨pt_blind, fun U hU hW => t_pre C hT h1 h2 U hU hW⟩ rfl hA h3.1 hst (lv_room hcat) d hf
theorem t_nI {K : KC} {E X own cc nL ret pc L st st0 w k n} (C : CX E X own cc nL ret) (hT : HT K E (xs X) (xs X).heap) {y : MethodName} {bytes : ByteArray} {maxL : Nat} {dep mc ms index nA : Nat} {host : String} {a : Nat} {av : List Value} {Post : Option Value → Wd → Prop} (hS : St K E (xl X) y bytes maxL none dep mc ms (.ref a :: av) w Post)
    (i : Nat) (hn : nWs[i]? = some (own, index, y, host)) (im : Cond.instanceMethod y ∈ GT) (ini : Cond.initialized y.cls ∈ GT) (co : Cond.code y bytes maxL none ∈ GT) (hy : y.name = "<init>")
    (hd : y.cls ≠ "java/lang/invoke/MethodHandle" ∧ y.cls ≠ "java/lang/invoke/VarHandle" ∧ (parseMethodDescriptor y.desc).map (fun d => d.parameters.length) = some nA) (hA : av.length = nA)
    (hR : dep + 1 ≤ (xR X).frames ∧ 8 + (maxL + 11) + 64 * dep ≤ (xR X).locals) (hst : st0 = av.reverse ++ .ref a :: st) (hcat : (st.map fun v => v.category).sum ≤ 8) (hf : k + mc ≤ (xR X).cells ∧ n + ms ≤ (xR X).slots) (d : decode cc pc = .ok (.invokespecial index, 3))
    (kk : ∀ v w', Post v w' → G E X nL (pc + 3) L (v.toList ++ st) w' (k + mc) (n + ms)) : G E X nL pc L st0 w k n := by
  refine g_run (a := (Value.ref a :: av).toArray) C (fun H locs ls h1 h2 h3 => ?_) kk
  exact va_runIN (Ts := GT) ⟨C.ex, C.co, C.ml, C.ow, C.ts⟩ hS ⟨va_cnB nA C.ts (gt_gi (fun w hw => by
      rcases List.mem_cons.mp hw with rfl | h
      · exact co
      · exact h)) rfl rfl rfl (hT.nest i hn) (C.ts _ ini) hd hR, hy, C.ts _ im⟩
    ⟨pt_blind, fun U hU hW => t_pre C hT h1 h2 U hU hW⟩ rfl hA h3.1 hst (lv_room hcat) d hf
