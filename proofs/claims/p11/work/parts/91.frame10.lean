/-! lookupswitch -/
theorem g_lookup {E X own cc nL ret pc L st w k n} (C : CX E X own cc nL ret) {z dflt off : Int} {ps : Array (Int × Int)} {len tgt : Nat} (d : decode cc pc = .ok (.lookupswitch dflt ps, len)) (hz : -2147483648 ≤ z ∧ z < 2147483648) (hp : (ps.toList.zip (ps.toList.drop 1)).all (fun (a, next) => a.1 < next.1) = true) (ho : Op.lookupswitch.offset ps.toList dflt z = off) (ht : (pc : Int) + off = (tgt : Int))
    (kk : G E X nL tgt L st w k n) : G E X nL pc L (iI z :: st) w k n :=
  fun H locs ls h1 h2 h3 => lv_lookup C.ex C.co d hp (by rw [i_tI hz.1 hz.2]; exact ho) ht (kk H locs ls h1 h2 h3)
theorem g_gen {E : GE} {X : XT} {nL pc : Nat} {L : List (Option Value)} {st : List Value} {w : Wd} {k n : Nat} (kk : ∀ u, u = w → G E X nL pc L st u k n) : G E X nL pc L st w k n := kk w rfl
