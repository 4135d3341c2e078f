/-! fields of a nest mate -/
theorem g_getN {E X own cc nL ret pc L st w k n} (C : CX E X own cc nL ret) {ci N : Nat} {Cn : String} {T : u_T} (hc : clz[ci]? = some (Cn, T, N)) (hin : ∀ w ∈ u_ws Cn T N, w ∈ GT) (j : Nat) (hj : j < N) {index : Nat} {ref host : String} (fl : va_Nw (.fieldLinkNest own index ref (T j).2.1 (T j).2.2.1 host) (xs X)) (hs : ref = (T j).1)
    {a : Nat} {b : Bool} {fs : List Value} {v : Value} (h : w.2 a = some (b, eO ci fs)) (hv : fs[j]? = some v) (d : decode cc pc = .ok (.getfield index, 3))
    (kk : G E X nL (pc + 3) L (v :: st) w k n) : G E X nL pc L (.ref a :: st) w k n :=
  fun H locs ls h1 h2 h3 => va_getN (ws := [(a, .inr (ci, fs))]) C.ex C.co C.ts hin C.ow C.kt.1 (h1.P h) 0 rfl hc j hj (va_Nw.use rfl fl) (fun x hx => by rw [hs]; exact hx) hv d (kk H locs ls h1 h2 h3)
theorem g_putN {E X own cc nL ret pc L st w k n} (C : CX E X own cc nL ret) {ci N : Nat} {Cn : String} {T : u_T} (hc : clz[ci]? = some (Cn, T, N)) (hin : ∀ w ∈ u_ws Cn T N, w ∈ GT) (ty0 : Nat → FieldType) (hty : ∀ k, k < N → parseFieldDescriptor (T k).2.2.1 = some (ty0 k)) (hnm : ∀ a, a < N → ∀ b, b < N → a ≠ b → (T a).2.1 ≠ (T b).2.1)
    (j : Nat) (hj : j < N) {index : Nat} {ref host : String} (fl : va_Nw (.fieldLinkNest own index ref (T j).2.1 (T j).2.2.1 host) (xs X)) (hs : ref = (T j).1) (hfin : (T j).2.2.2 = false)
    {a : Nat} {fs : List Value} {v : Value} (h : w.2 a = some (true, eO ci fs)) (hl : j < fs.length) (hn : narrow (ty0 j) v = v) (hf : fits (ty0 j) v = true) (d : decode cc pc = .ok (.putfield index, 3))
    (kk : G E X nL (pc + 3) L st (wset w a (true, eO ci (fs.set j v))) k n) : G E X nL pc L (v :: .ref a :: st) w k n := by
  intro H locs ls h1 h2 h3
  have hap := va_apart (own := own) C.ts hin ty0 hty hnm C.kt.1 hc
  obtain ⟨g1, gb⟩ := h1.2 a true _ h
  obtain ⟨r, g2, cell, q1, q2, q3, q4⟩ := g1
  have hr : r = (Cn, T, N) := Option.some.inj (g2.symm.trans hc)
  subst hr
  obtain ⟨hS, hfc, kC, hkC, hkind⟩ := C.kt.1.1 ci _ hc
  obtain ⟨cf, kf, fi, f, hi, hsl⟩ := hS j hj
  have hlay := C.ts _ (hin _ (u_in_lay hj))
  unfold u_lay at hlay
  rw [if_neg (by rw [hfin]; decide)] at hlay
  have hst := (u_facts hfc hkC (u_lays C.ts hin hj) hi).1
  have h6 := u_store hfc hkC hkind hlay hi (hty j hj) hn hf
  refine va_WputK C.ex C.co (f := f) C.ow (va_Nw.use rfl fl) (by rw [hs]; exact hi) hst (by rw [q2]; exact h6) q1 q3 (by rw [hsl]; exact k2_hasslot (q4 j hj)) rfl rfl d fun H' e1 e2 e3 => ?_
  rw [hsl] at e1 ⊢
  exact kk H' _ ls (h1.set ⟨_, hc, t_OB.to (V := updV (vp_V fs) j v) ⟨_, e1, q2, q3, t_set q4 hap hj v⟩ (fun i _ => vp_updV_set hl v i)⟩ (gb rfl) e2 e3) (h2.put e2 e3 (gb rfl)) h3
