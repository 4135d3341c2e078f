/-! arrays of objects of a class of one's own -/
theorem g_anewO {E X own cc nL ret pc L st w k n} (C : CX E X own cc nL ret) (i : Nat) {Cn : String} (hti : (tysOf E.2.1)[i]? = some (E.2.1 i, .object Cn)) (ho : va_AO Cn (xs X)) {index : Nat} (kl : Cond.classLink own index Cn ∈ GT) {z : Int} {N : Nat} (hz : z = N) (hN : N ≤ 1000000) (hk : k + 1 ≤ (xR X).cells ∧ n + N ≤ (xR X).slots) (d : decode cc pc = .ok (.anewarray index, 3))
    (kk : G E X nL (pc + 3) L (.ref w.1 :: st) (wpush w (true, eR i N (fun _ => none))) (k + 1) (n + N)) : G E X nL pc L (iI z :: st) w k n := by
  intro H locs ls h1 h2 h3
  subst hz
  have en : (Int32.ofInt (N : Int)).toNatClampNeg = N := by rw [i_nat (by omega) (by omega)]; rfl
  refine W.anew C.ex C.co C.ow (C.ts _ kl) (va_AO.use ho) rfl d rfl (by rw [i_0, i_lt (by omega) (by omega)]; omega) (by rw [en]; omega) hk.1 (by rw [en]; exact hk.2) fun cA kA comp f1 f2 f3 f4 => ?_
  rw [en]
  generalize hH1 : H.push ({ cls := cA, slots := Array.replicate N .null, vm := .none } : Cell) = H1
  have z1 : H1.size = H.size + 1 := by rw [← hH1, Array.size_push]
  have e1 : H1[H.size]? = some (arrV cA N (fun _ => .null)) := by rw [← hH1, Array.getElem?_push_size, ← arrV_new]
  have o1 : ∀ q : Nat, q < H.size → H1[q]? = H[q]? := fun q hq => by rw [← hH1, Array.getElem?_push, if_neg (Nat.ne_of_lt hq)]
  have hb : E.2.2 ≤ w.1 := by rw [← h1.1]; exact Nat.le_trans C.bs h2.1
  obtain ⟨kA', comp', k1, k2, k3, k4⟩ := (kt_i C.kt i hti).2
  have hc : cA = E.2.1 i := Option.some.inj (f1.symm.trans k4)
  subst hc
  rw [h1.1] at e1 ⊢
  exact kk H1 locs ls (h1.push e1 hb z1 o1) (h2.p1 z1 o1) h3
theorem g_aastoreO {E X own cc nL ret pc L st w k n} (C : CX E X own cc nL ret) (t0 ci : Nat) {r : vw_C} (hti : (tysOf E.2.1)[t0]? = some (E.2.1 t0, .object r.1)) (hc : clz[ci]? = some r) (i : Nat) {a N v : Nat} {b : Bool} {f : Nat → Option Nat} {vs : List Value} {z : Int} (h : w.2 a = some (true, eR t0 N f)) (hv : w.2 v = some (b, eO ci vs)) (hz : z = i) (hi : i < N ∧ i < 2147483648) (d : decode cc pc = .ok (.aastore, 1))
    (kk : G E X nL (pc + 1) L st (wset w a (true, eR t0 N (rup f i (some v)))) k n) : G E X nL pc L (.ref v :: iI z :: .ref a :: st) w k n := by
  intro H locs ls h1 h2 h3
  subst hz
  have en : (Int32.ofInt (i : Int)).toNatClampNeg = i := by rw [i_nat (by omega) (by omega)]; rfl
  obtain ⟨g1, gb⟩ := h1.2 a true _ h
  obtain ⟨r', hr', cellV, q1, q2, q3, -⟩ := (h1.2 v b _ hv).1
  have hcls := (C.kt.1.1 ci r hc).2
  obtain ⟨kA, comp, k1, k2, k3, -⟩ := (kt_i C.kt t0 hti).2
  have hcomp : comp = E.1.1 ci := Option.some.inj (k3.symm.trans hcls.1)
  subst hcomp
  obtain ⟨kC, hkC, -⟩ := hcls.2
  refine W.aast C.ex C.co g1 (fun q h => by cases h) (fun h => by cases h) k1 k2 rfl hkC (j := Int32.ofInt (i : Int)) ⟨by rw [i_0, i_lt (by omega) (by omega)]; omega, by show _ < (arrV _ _ _).slots.size; rw [arrV_size, en]; exact hi.1⟩ q1 (fun q h => by rw [q3] at h; cases h) (by rw [q2]; exact hkC) (by rw [q2]; exact va_assign hcls) rfl rfl d fun H1 e z1 oq => ?_
  refine kk H1 _ ls (h1.set ?_ (gb rfl) z1 oq) (h2.put z1 oq (gb rfl)) h3
  show H1[a]? = some (vp_cell _ _)
  rw [e, en]
  rw [vp_cell_q, vp_cell_q, arrV_store]
  congr 2
  funext q
  by_cases hq : q = i
  · subst hq
    simp [updV, rup, va_rf]
  · simp [updV, rup, hq]
