/-! arrays of int rows -/
theorem g_anewI {E X own cc nL ret pc L st w k n} (C : CX E X own cc nL ret) {index : Nat} (kl : Cond.classLink own index "[I" ∈ GT) {z : Int} {N : Nat} (hz : z = N) (hN : N ≤ 1000000) (hk : k + 1 ≤ (xR X).cells ∧ n + N ≤ (xR X).slots) (d : decode cc pc = .ok (.anewarray index, 3))
    (kk : G E X nL (pc + 3) L (.ref w.1 :: st) (wpush w (true, eR 2 N (fun _ => none))) (k + 1) (n + N)) : G E X nL pc L (iI z :: st) w k n := by
  intro H locs ls h1 h2 h3
  subst hz
  have en : (Int32.ofInt (N : Int)).toNatClampNeg = N := by rw [i_nat (by omega) (by omega)]; rfl
  refine W.anewA (t := .int) C.ex C.co C.ow (C.ts _ kl) C.kt.2.2.1 rfl d rfl (by rw [i_0, i_lt (by omega) (by omega)]; omega) (by rw [en]; omega) hk.1 (by rw [en]; exact hk.2) fun cA kA comp f1 f2 f3 f4 => ?_
  rw [en]
  generalize hH1 : H.push ({ cls := cA, slots := Array.replicate N .null, vm := .none } : Cell) = H1
  have z1 : H1.size = H.size + 1 := by rw [← hH1, Array.size_push]
  have e1 : H1[H.size]? = some (arrV cA N (fun _ => .null)) := by rw [← hH1, Array.getElem?_push_size, ← arrV_new]
  have o1 : ∀ q : Nat, q < H.size → H1[q]? = H[q]? := fun q hq => by rw [← hH1, Array.getElem?_push, if_neg (Nat.ne_of_lt hq)]
  have hb : E.2.2 ≤ w.1 := by rw [← h1.1]; exact Nat.le_trans C.bs h2.1
  have hc : cA = E.2.1 2 := Option.some.inj (f1.symm.trans (kt_i C.kt 2 rfl).2)
  subst hc
  rw [h1.1] at e1 ⊢
  exact kk H1 locs ls (h1.push e1 hb z1 o1) (h2.p1 z1 o1) h3
theorem assign_rf (vm : Vm) (c : ClassId) : vm.assignable c c = true := by
  unfold Vm.assignable
  rw [show (256 : Nat) = 255 + 1 from rfl, Vm.assignableAux, beq_self_eq_true, Bool.true_or]
theorem g_aastoreI {E X own cc nL ret pc L st w k n} (C : CX E X own cc nL ret) {a N v m : Nat} {b : Bool} {f : Nat → Option Nat} {g : Nat → Int} (i : Nat) {z : Int} (h : w.2 a = some (true, eR 2 N f)) (hv : w.2 v = some (b, eI m g)) (hz : z = i) (hi : i < N ∧ i < 2147483648) (d : decode cc pc = .ok (.aastore, 1))
    (kk : G E X nL (pc + 1) L st (wset w a (true, eR 2 N (rup f i (some v)))) k n) : G E X nL pc L (.ref v :: iI z :: .ref a :: st) w k n := by
  intro H locs ls h1 h2 h3
  subst hz
  have en : (Int32.ofInt (i : Int)).toNatClampNeg = i := by rw [i_nat (by omega) (by omega)]; rfl
  obtain ⟨g1, gb⟩ := h1.2 a true _ h
  obtain ⟨g2, -⟩ := h1.2 v b _ hv
  obtain ⟨kA, k1, k2⟩ := C.kt.2.1
  obtain ⟨-, kI, hkI, compI, hkindI⟩ := (kt_i C.kt 0 rfl).1 0 (fun _ => .null)
  refine W.aast C.ex C.co g1 (fun q h => by cases h) (fun h => by cases h) k1 k2 rfl hkI (j := Int32.ofInt (i : Int)) ⟨by rw [i_0, i_lt (by omega) (by omega)]; omega, by show _ < (arrV _ _ _).slots.size; rw [arrV_size, en]; exact hi.1⟩ g2 (fun q h => by cases h) hkI (assign_rf _ _) rfl rfl d fun H1 e z1 oq => ?_
  refine kk H1 _ ls (h1.set ?_ (gb rfl) z1 oq) (h2.put z1 oq (gb rfl)) h3
  show H1[a]? = some (vp_cell _ _)
  rw [e, en]
  rw [vp_cell_q, vp_cell_q, arrV_store]
  congr 2
  funext q
  by_cases hq : q = i
  · subst hq
    simp [updV, rup, va_rf]
  · simp [updV, rup, hq]
theorem rup_s {f : Nat → Option Nat} {k : Nat} {x : Option Nat} : rup f k x k = x := by unfold rup; rw [if_pos rfl]
theorem rup_n {f : Nat → Option Nat} {k j : Nat} {x : Option Nat} (h : j ≠ k) : rup f k x j = f j := by unfold rup; rw [if_neg h]
