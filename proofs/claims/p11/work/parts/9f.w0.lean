/-! the law's body -/
def SRX (E : GE) (X : XT) (b N : Nat) (f : Nat → Int) : Prop := va_X b N (fun j => Int32.ofInt (f j)) (xs X) (xs X).heap ∧ b < (xs X).heap.size ∧ ¬ gA E b ∧ (∀ j, -2147483648 ≤ f j ∧ f j < 2147483648) ∧ N ≤ 320
theorem g_sld {E X own cc nL ret pc L st w k n} (i : Nat) (C : CX E X own cc nL ret) {b N : Nat} {f : Nat → Int} {z : Int} (h : SRX E X b N f) (hz : z = i) (hi : i < N) (d : decode cc pc = .ok (.iaload, 1)) (kk : G E X nL (pc + 1) L (iI (f i) :: st) w k n) : G E X nL pc L (iI z :: .ref b :: st) w k n := by
  intro H locs ls h1 h2 h3
  obtain ⟨g1, g2, g3, g4, g5⟩ := h
  subst hz
  have hin : vp_in (Int32.ofInt (i : Int)) N := i_in (by omega) (by omega) (by omega)
  refine va_sld C.ex C.co g1 g2 g3 h2 hin d ?_
  show xW X H locs k n (F0 (xm X) (pc + 1) ls (.int (Int32.ofInt (f (Int32.ofInt (i : Int)).toNatClampNeg)) :: st))
  rw [i_nat (by omega) (by omega), Int.toNat_natCast]
  exact kk H locs ls h1 h2 h3
theorem g_slen {E X own cc nL ret pc L st w k n} (C : CX E X own cc nL ret) {b N : Nat} {f : Nat → Int} (h : SRX E X b N f) (d : decode cc pc = .ok (.arraylength, 1)) (kk : G E X nL (pc + 1) L (iI (N : Int) :: st) w k n) : G E X nL pc L (.ref b :: st) w k n := by
  intro H locs ls h1 h2 h3
  obtain ⟨g1, g2, g3, g4, g5⟩ := h
  refine va_slen C.ex C.co g1 g2 g3 h2 d ?_
  rw [show Int32.ofNat N = Int32.ofInt (N : Int) from Int32.ofInt_eq_ofNat.symm]
  exact kk H locs ls h1 h2 h3
theorem g_bool {E X own cc nL ret pc L st w k n} (C : CX E X own cc nL ret) {v : Int} (hv : -2147483648 ≤ v ∧ v < 2147483648) (d0 : decode cc pc = .ok (.ifCond .eq 7, 3)) (d3 : decode cc (pc + 3) = .ok (.iconst 1, 1)) (d4 : decode cc (pc + 4) = .ok (.goto 4, 3)) (d7 : decode cc (pc + 7) = .ok (.iconst 0, 1)) (kk : G E X nL (pc + 8) L (iI (bI (v ≠ 0)) :: st) w k n) : G E X nL pc L (iI v :: st) w k n := by
  refine g_if_eq (tgt := pc + 7) C d0 (by omega) hv (fun h => ?_) (fun h => ?_)
  · rw [bI_f (by omega)] at kk
    exact g_iconst C d7 kk
  · rw [bI_t (by omega)] at kk
    exact g_iconst C d3 (g_goto (pc := pc + 4) (tgt := pc + 8) C d4 (by omega) kk)
def LawX (K : KC) (E : GE) (X : XT) (b N : Nat) (f : Nat → Int) : Prop := CX E X RL cL_law 7 (some .boolean) ∧ HT K E (xs X) (xs X).heap ∧ HX (xs X) ∧ (xl X).stackTraces = false ∧ ((xR X).frames = 2048 ∧ (xR X).locals = 84000 ∧ (xR X).cells = 793047 ∧ (xR X).slots = 6722339) ∧ SRX E X b N f
abbrev LL (b x m o t : Nat) : List (Option Value) := [some (.ref b), some (.ref x), some (.ref m), some (.ref o), some (iI (5 * t : Int)), none, none]
