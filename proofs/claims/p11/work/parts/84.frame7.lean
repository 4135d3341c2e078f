/-! tableswitch -/
theorem g_tin {E X own cc nL ret pc L st w k n} (C : CX E X own cc nL ret) {z dflt lo hi off : Int} {offs : Array Int} {len tgt : Nat} (d : decode cc pc = .ok (.tableswitch dflt lo hi offs, len)) (hz : -2147483648 ≤ z ∧ z < 2147483648) (h : lo ≤ z ∧ z ≤ hi) (ho : offs[(z - lo).toNat]? = some off) (ht : (pc : Int) + off = (tgt : Int))
    (kk : G E X nL tgt L st w k n) : G E X nL pc L (iI z :: st) w k n :=
  fun H locs ls h1 h2 h3 => lv_tableIn C.ex C.co d (by rw [i_tI hz.1 hz.2]; omega) (by rw [i_tI hz.1 hz.2]; omega) (by rw [i_tI hz.1 hz.2]; exact ho) ht (kk H locs ls h1 h2 h3)
theorem g_tout {E X own cc nL ret pc L st w k n} (C : CX E X own cc nL ret) {z dflt lo hi : Int} {offs : Array Int} {len tgt : Nat} (d : decode cc pc = .ok (.tableswitch dflt lo hi offs, len)) (hz : -2147483648 ≤ z ∧ z < 2147483648) (h : z < lo ∨ hi < z) (ht : (pc : Int) + dflt = (tgt : Int))
    (kk : G E X nL tgt L st w k n) : G E X nL pc L (iI z :: st) w k n :=
  fun H locs ls h1 h2 h3 => lv_tableOut C.ex C.co d (by rw [i_tI hz.1 hz.2]; exact h) ht (kk H locs ls h1 h2 h3)
