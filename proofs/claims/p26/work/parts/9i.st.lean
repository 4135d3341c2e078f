/-! what the Statement gives at the start -/
abbrev FLs : List Cond := flatC (Jvm.Cond.and given_1 narrow_1)
theorem selPriv {C : String} {x y z : MethodName} {s : State} {a : Array Value} {n : Nat} (hy : y.cls ≠ "java/lang/invoke/MethodHandle" ∧ y.cls ≠ "java/lang/invoke/VarHandle")
    (hins : (Cond.instantiable C n).before a s = true) (hpriv : (Cond.privateMethod y).before a s = true) (hinst : (Cond.instanceMethod y).before a s = true) (hz : (Cond.selects C x z).before a s = true) (hc : z.cls = y.cls) : (Cond.selects C y y).before a s = true := by
  obtain ⟨c, k, h1, -, -, -, -, -⟩ := Cond.instantiable_spec hins
  obtain ⟨mk, methM, hnamed, hmethM, -, -⟩ := Cond.instanceMethod_spec hinst
  have hfound : s.methodFound? y.cls y.name y.desc = some mk := State.methodFound?_of_named hnamed hy
  obtain ⟨c2, r2, m2, -, -, g3, -, k2, g5, g6⟩ := Cond.selects_spec hz
  have e1 := findClass_of_methodNamed hnamed
  have e2 := findClass_of_methodNamed g3
  rw [hc] at e2
  have e3 : mk.cls = m2.cls := Option.some.inj (e1.symm.trans e2)
  rw [← e3] at g5
  have hsel : selectMethod {} s.vm c mk = .method mk := selectMethod_private hmethM (Cond.privateMethod_at hpriv mk methM hnamed hmethM)
  simp only [Cond.before, Cond.holds, Cond.value, h1, hfound, hnamed, hsel, g5]
  simp; exact g6
theorem st_gt {s : State} {a : Array Value} (hts : ∀ w ∈ lw_tbl, w.before a s = true) : ∀ w ∈ GT, w.before a s = true := by
  intro w hw
  rcases List.mem_append.mp (List.mem_filter.mp hw).1 with h | h
  · have hz := (hts (Cond.selects RJ4 ⟨"java/lang/AbstractStringBuilder", "isLatin1", "()Z"⟩ yJ5_isLatin1_aae02) (List.mem_of_getElem? (i := 419) (by decide +kernel)))
    have hi := (hts (Cond.instantiable RJ4 4) (List.mem_of_getElem? (i := 324) (by decide +kernel)))
    simp only [GTx, List.mem_cons, List.not_mem_nil, or_false] at h
    rcases h with rfl | rfl | rfl | rfl | rfl | rfl
    · exact selPriv (y := yJ5_ensureCapacityInternal_d00df) ⟨by decide +kernel, by decide +kernel⟩ hi (hts (Cond.privateMethod yJ5_ensureCapacityInternal_d00df) (List.mem_of_getElem? (i := 386) (by decide +kernel))) (hts (Cond.instanceMethod yJ5_ensureCapacityInternal_d00df) (List.mem_of_getElem? (i := 387) (by decide +kernel))) hz rfl
    · exact selPriv (y := yJ5_newCapacity_0f7a4) ⟨by decide +kernel, by decide +kernel⟩ hi (hts (Cond.privateMethod yJ5_newCapacity_0f7a4) (List.mem_of_getElem? (i := 390) (by decide +kernel))) (hts (Cond.instanceMethod yJ5_newCapacity_0f7a4) (List.mem_of_getElem? (i := 391) (by decide +kernel))) hz rfl
    · exact selPriv (y := yJ5_inflate_da8c8) ⟨by decide +kernel, by decide +kernel⟩ hi (hts (Cond.privateMethod yJ5_inflate_da8c8) (List.mem_of_getElem? (i := 466) (by decide +kernel))) (hts (Cond.instanceMethod yJ5_inflate_da8c8) (List.mem_of_getElem? (i := 467) (by decide +kernel))) hz rfl
    · exact selPriv (y := yJ5_appendNull_278bc) ⟨by decide +kernel, by decide +kernel⟩ hi (hts (Cond.privateMethod yJ5_appendNull_278bc) (List.mem_of_getElem? (i := 382) (by decide +kernel))) (hts (Cond.instanceMethod yJ5_appendNull_278bc) (List.mem_of_getElem? (i := 383) (by decide +kernel))) hz rfl
    · exact selPriv (y := yJ5_putStringAt_47b60) ⟨by decide +kernel, by decide +kernel⟩ hi (hts (Cond.privateMethod yJ5_putStringAt_47b60) (List.mem_of_getElem? (i := 457) (by decide +kernel))) (hts (Cond.instanceMethod yJ5_putStringAt_47b60) (List.mem_of_getElem? (i := 458) (by decide +kernel))) hz rfl
    · exact selPriv (y := yJ5_inflateIfNeededFor_a7421) ⟨by decide +kernel, by decide +kernel⟩ hi (hts (Cond.privateMethod yJ5_inflateIfNeededFor_a7421) (List.mem_of_getElem? (i := 461) (by decide +kernel))) (hts (Cond.instanceMethod yJ5_inflateIfNeededFor_a7421) (List.mem_of_getElem? (i := 462) (by decide +kernel))) hz rfl
  · exact hts w h
theorem st_cl {s : State} {a : Array Value} (hg : ∀ w ∈ GT, w.before a s = true) : ∀ (k : Nat), ∃ p : ClassId × (Nat → Nat), ∀ q : vw_C, clz[k]? = some q → u_Kn s q.1 q.2.1 q.2.2 p.1 p.2 := by
  intro k
  match k with
  | 0 =>
    obtain ⟨c, iS, h⟩ := u_known (C := RJ0) (T := TJ0) (N := 4) (n := 4) hg inTJ0 (hg _ ib_RJ0)
    exact ⟨(c, iS), fun q hq => by cases hq; exact h⟩
  | 1 =>
    obtain ⟨c, iS, h⟩ := u_known (C := RJ4) (T := TJ4) (N := 4) (n := 4) hg inTJ4 (hg _ ib_RJ4)
    exact ⟨(c, iS), fun q hq => by cases hq; exact h⟩
  | 2 =>
    obtain ⟨c, iS, h⟩ := u_known (C := RX0) (T := TX0) (N := 5) (n := 5) hg inTX0 (hg _ ib_RX0)
    exact ⟨(c, iS), fun q hq => by cases hq; exact h⟩
  | 3 =>
    obtain ⟨c, iS, h⟩ := u_known (C := RX1) (T := TX1) (N := 7) (n := 7) hg inTX1 (hg _ ib_RX1)
    exact ⟨(c, iS), fun q hq => by cases hq; exact h⟩
  | 4 =>
    obtain ⟨c, iS, h⟩ := u_known (C := RX2) (T := TX2) (N := 3) (n := 3) hg inTX2 (hg _ ib_RX2)
    exact ⟨(c, iS), fun q hq => by cases hq; exact h⟩
  | 5 =>
    obtain ⟨c, iS, h⟩ := u_known (C := RX3) (T := TX3) (N := 8) (n := 8) hg inTX3 (hg _ ib_RX3)
    exact ⟨(c, iS), fun q hq => by cases hq; exact h⟩
  | 6 =>
    obtain ⟨c, iS, h⟩ := u_known (C := RX4) (T := TX4) (N := 2) (n := 2) hg inTX4 (hg _ ib_RX4)
    exact ⟨(c, iS), fun q hq => by cases hq; exact h⟩
  | 7 =>
    obtain ⟨c, iS, h⟩ := u_known (C := RX5) (T := TX5) (N := 3) (n := 3) hg inTX5 (hg _ ib_RX5)
    exact ⟨(c, iS), fun q hq => by cases hq; exact h⟩
  | 8 =>
    obtain ⟨c, iS, h⟩ := u_known (C := RX6) (T := TX6) (N := 15) (n := 15) hg inTX6 (hg _ ib_RX6)
    exact ⟨(c, iS), fun q hq => by cases hq; exact h⟩
  | 9 =>
    obtain ⟨c, iS, h⟩ := u_known (C := RX7) (T := TX7) (N := 2) (n := 2) hg inTX7 (hg _ ib_RX7)
    exact ⟨(c, iS), fun q hq => by cases hq; exact h⟩
  | 10 =>
    obtain ⟨c, iS, h⟩ := u_known (C := RX8) (T := TX8) (N := 8) (n := 8) hg inTX8 (hg _ ib_RX8)
    exact ⟨(c, iS), fun q hq => by cases hq; exact h⟩
  | 11 =>
    obtain ⟨c, iS, h⟩ := u_known (C := RJx00060) (T := TJx00060) (N := 6) (n := 6) hg inTJx00060 (hg _ ib_RJx00060)
    exact ⟨(c, iS), fun q hq => by cases hq; exact h⟩
  | 12 =>
    obtain ⟨c, iS, h⟩ := u_known (C := RJx7c733) (T := TJx7c733) (N := 6) (n := 6) hg inTJx7c733 (hg _ ib_RJx7c733)
    exact ⟨(c, iS), fun q hq => by cases hq; exact h⟩
  | k + 13 => exact ⟨(0, fun _ => 0), fun q hq => by simp [clz] at hq⟩
theorem st_ac {s : State} {a : Array Value} {ty : FieldType} (h : (Cond.arrayClass ty).before a s = true) : ∃ c, s.vm.findClass ("[" ++ ty.toString) = some c ∧ ArrOfT s c ty := by
  obtain ⟨c, k, comp, h1, h2, h3⟩ := Cond.arrayClass_spec h
  exact ⟨c, h1, fun n z => ⟨fun k h => (by cases h), k, h2, comp, h3⟩⟩
theorem st_ao {s : State} {a : Array Value} {C : String} (h : (Cond.arrayOver (.object C)).before a s = true) : ∃ c, ArrOfT s c (.object C) ∧ va_RA s c (.object C) := by
  obtain ⟨comp, c, k, h1, h2, h3, h4, h5⟩ := Cond.arrayOver_spec h
  exact ⟨c, fun n z => ⟨fun k h => (by cases h), k, h3, comp, h4⟩, k, comp, h3, h4, h1, h5⟩
theorem st_kt {s : State} {a : Array Value} (hts : ∀ w ∈ lw_tbl, w.before a s = true) : ∃ (D : va_G) (ca : Nat → ClassId), KT (D, ca, s.heap.size) s := by
  have hg := st_gt hts
  obtain ⟨p, hp⟩ := Classical.axiomOfChoice (st_cl hg)
  obtain ⟨c0, f0, a0⟩ := st_ac (hts (Cond.arrayClass .int) (List.mem_of_getElem? (i := 100) (by decide +kernel)))
  obtain ⟨c1, f1, a1⟩ := st_ac (hts (Cond.arrayClass .byte) (List.mem_of_getElem? (i := 148) (by decide +kernel)))
  have o2 := (hts (Cond.arrayOver (.array .int)) (List.mem_of_getElem? (i := 1475) (by decide +kernel)))
  obtain ⟨comp, c2, k2, g1, -, g2, g3, g4⟩ := arrayOverA_spec o2
  have o3 := (hts (Cond.arrayOver (.object RX4)) (List.mem_of_getElem? (i := 72) (by decide +kernel)))
  have o4 := (hts (Cond.arrayOver (.object RX2)) (List.mem_of_getElem? (i := 74) (by decide +kernel)))
  have o5 := (hts (Cond.arrayOver (.object RX3)) (List.mem_of_getElem? (i := 76) (by decide +kernel)))
  have o6 := (hts (Cond.arrayOver (.object RX5)) (List.mem_of_getElem? (i := 84) (by decide +kernel)))
  obtain ⟨c3, a3, f3⟩ := st_ao o3
  obtain ⟨c4, a4, f4⟩ := st_ao o4
  obtain ⟨c5, a5, f5⟩ := st_ao o5
  obtain ⟨c6, a6, f6⟩ := st_ao o6
  have e : comp = c0 := Option.some.inj (g1.symm.trans f0)
  subst e
  refine ⟨(fun k => (p k).1, fun k => (p k).2), fun k => match k with | 0 => comp | 1 => c1 | 2 => c2 | 3 => c3 | 4 => c4 | 5 => c5 | _ => c6, ⟨fun c q hq => hp c q hq, fun k q hq => ?_⟩, ⟨k2, g2, g3⟩, ?_, ?_, ?_, ?_, ?_, ?_, ?_⟩
  · match k, hq with
    | 0, hq => cases hq; exact ⟨a0, f0⟩
    | 1, hq => cases hq; exact ⟨a1, f1⟩
    | 2, hq => cases hq; exact ⟨fun n z => ⟨fun k h => (by cases h), k2, g2, comp, g3⟩, g4⟩
    | 3, hq => cases hq; exact ⟨a3, f3⟩
    | 4, hq => cases hq; exact ⟨a4, f4⟩
    | 5, hq => cases hq; exact ⟨a5, f5⟩
    | 6, hq => cases hq; exact ⟨a6, f6⟩
    | k + 7, hq => simp [tysOf] at hq
  · exact o2
  · exact va_AO.of o3
  · exact va_AO.of o4
  · exact va_AO.of o5
  · exact va_AO.of o6
  · exact va_Nw.of rfl (hts (Cond.castable "[I" "java/lang/Cloneable") (List.mem_of_getElem? (i := 1598) (by decide +kernel)))
  · exact va_Nw.of rfl (hts (Cond.castable "[B" "java/lang/Cloneable") (List.mem_of_getElem? (i := 410) (by decide +kernel)))
theorem st_s {s : State} {a : Array Value} {own tx : String} {k : Nat} (hr : (Cond.stringRef own k tx).before a s = true) (hx : (Cond.exactly (.string own k) "java/lang/String").before a s = true) : ∃ q, vk_R own k tx q s := by
  obtain ⟨q, c, cA, kA, q1, -⟩ := Cond.exactly_spec (args := a) (first := s) (o := none) (s := s) (idx := []) (t := .string own k) (cls := "java/lang/String") hx
  exact ⟨q, vk_R.of hr q1⟩
theorem st_v {s : State} {a : Array Value} {own tx : String} {k : Nat} {A : Nat → Prop} (by0 : List Int32) (hn : by0.length < 2 ^ 31) (hr : (Cond.stringRef own k tx).before a s = true) (hx : (Cond.exactly (.string own k) "java/lang/String").before a s = true) (hco : (Cond.eq (.field (.string own k) "java/lang/String" "coder" "B") (.int 0)).before a s = true)
    (har : (Cond.arrayOf (.field (.string own k) "java/lang/String" "value" "[B") .byte).before a s = true) (hle : (Cond.eq (.length (.field (.string own k) "java/lang/String" "value" "[B")) (.int (Int32.ofNat by0.length))).before a s = true)
    (hel : ∀ j : Nat, j < by0.length → (Cond.eq (.elem (.field (.string own k) "java/lang/String" "value" "[B") (.int (Int32.ofNat j))) (.int (by0.getD j 0))).before a s = true) (hA : ∀ q : Nat, q < s.heap.size → ¬ A q) : ∃ q v : Nat, vk_R own k tx q s ∧ vk_S 1 [by0.length] [by0] (fun _ => q) (fun _ => v) A s s.heap := by
  obtain ⟨adK, adV, h1, h2⟩ := vk_Sof (args := a) (s := s) (N := 1) (tm := fun _ => .string own k) (len := [by0.length]) (byt := [by0]) (A := A) (fun i hi => by rw [show i = 0 by omega]; exact hn) (fun i _ => hx) (fun i _ => hco) (fun i _ => har) (fun i hi => by rw [show i = 0 by omega]; exact hle) (fun i hi j hj => by
    have e : i = 0 := by omega
    subst e
    exact hel j hj) (fun i j hi hj hne => absurd (show i = j by omega) hne) hA
  refine ⟨adK 0, adV 0, vk_R.of hr (h2 0 (by omega)), fun i hi => ?_, fun i j hi hj _ => by omega⟩
  have e : i = 0 := by omega
  subst e
  exact h1.1 0 (by omega)
theorem st_tx {s : State} {a : Array Value} (hts : ∀ w ∈ lw_tbl, w.before a s = true) (hs : ∀ w ∈ FLs, w.before a s = true) {A : Nat → Prop} (hA : ∀ q : Nat, q < s.heap.size → ¬ A q) : ∃ kA kV : Nat → Nat, (∀ i t, kTx[i]? = some t → vk_R t.1 t.2.1 t.2.2 (kA i) s) ∧ ∀ i, i < 4 → vk_S 1 [(kBy i).length] [kBy i] (fun _ => kA i) (fun _ => kV i) A s s.heap := by
  obtain ⟨q0, v0, r0, s0⟩ := st_v (kBy 0) (by decide) (hts (Cond.stringRef "RootwalkModel" 165 "") (List.mem_of_getElem? (i := 1583) (by decide +kernel))) (hs (Cond.exactly (.string "RootwalkModel" 165) "java/lang/String") (List.mem_of_getElem? (i := 515) (by decide +kernel))) (hs (Cond.eq (.field (.string "RootwalkModel" 165) "java/lang/String" "coder" "B") (.int 0)) (List.mem_of_getElem? (i := 516) (by decide +kernel))) (hs (Cond.arrayOf (.field (.string "RootwalkModel" 165) "java/lang/String" "value" "[B") .byte) (List.mem_of_getElem? (i := 517) (by decide +kernel))) (hs (Cond.eq (.length (.field (.string "RootwalkModel" 165) "java/lang/String" "value" "[B")) (.int 0)) (List.mem_of_getElem? (i := 518) (by decide +kernel))) (fun j hj => absurd hj (Nat.not_lt_zero j)) hA
  obtain ⟨q1, v1, r1, s1⟩ := st_v (kBy 1) (by decide) (hts (Cond.stringRef "RootwalkModel" 220 " ") (List.mem_of_getElem? (i := 1728) (by decide +kernel))) (hs (Cond.exactly (.string "RootwalkModel" 220) "java/lang/String") (List.mem_of_getElem? (i := 577) (by decide +kernel))) (hs (Cond.eq (.field (.string "RootwalkModel" 220) "java/lang/String" "coder" "B") (.int 0)) (List.mem_of_getElem? (i := 578) (by decide +kernel))) (hs (Cond.arrayOf (.field (.string "RootwalkModel" 220) "java/lang/String" "value" "[B") .byte) (List.mem_of_getElem? (i := 579) (by decide +kernel))) (hs (Cond.eq (.length (.field (.string "RootwalkModel" 220) "java/lang/String" "value" "[B")) (.int 1)) (List.mem_of_getElem? (i := 580) (by decide +kernel))) (fun j hj => hs _ (List.mem_of_getElem? (i := 581 + j) ((show ∀ j : Nat, j < 1 → FLs[581 + j]? = some (Cond.eq (.elem (.field (.string "RootwalkModel" 220) "java/lang/String" "value" "[B") (.int (Int32.ofNat j))) (.int ((kBy 1).getD j 0))) by decide +kernel) j hj))) hA
  obtain ⟨q2, v2, r2, s2⟩ := st_v (kBy 2) (by decide) (hts (Cond.stringRef "RootwalkModel" 84 "0") (List.mem_of_getElem? (i := 1594) (by decide +kernel))) (hs (Cond.exactly (.string "RootwalkModel" 84) "java/lang/String") (List.mem_of_getElem? (i := 529) (by decide +kernel))) (hs (Cond.eq (.field (.string "RootwalkModel" 84) "java/lang/String" "coder" "B") (.int 0)) (List.mem_of_getElem? (i := 530) (by decide +kernel))) (hs (Cond.arrayOf (.field (.string "RootwalkModel" 84) "java/lang/String" "value" "[B") .byte) (List.mem_of_getElem? (i := 531) (by decide +kernel))) (hs (Cond.eq (.length (.field (.string "RootwalkModel" 84) "java/lang/String" "value" "[B")) (.int 1)) (List.mem_of_getElem? (i := 532) (by decide +kernel))) (fun j hj => hs _ (List.mem_of_getElem? (i := 533 + j) ((show ∀ j : Nat, j < 1 → FLs[533 + j]? = some (Cond.eq (.elem (.field (.string "RootwalkModel" 84) "java/lang/String" "value" "[B") (.int (Int32.ofNat j))) (.int ((kBy 2).getD j 0))) by decide +kernel) j hj))) hA
  obtain ⟨q3, v3, r3, s3⟩ := st_v (kBy 3) (by decide) (hts (Cond.stringRef "RootwalkModel" 93 "0123456789abcdef") (List.mem_of_getElem? (i := 1604) (by decide +kernel))) (hs (Cond.exactly (.string "RootwalkModel" 93) "java/lang/String") (List.mem_of_getElem? (i := 545) (by decide +kernel))) (hs (Cond.eq (.field (.string "RootwalkModel" 93) "java/lang/String" "coder" "B") (.int 0)) (List.mem_of_getElem? (i := 546) (by decide +kernel))) (hs (Cond.arrayOf (.field (.string "RootwalkModel" 93) "java/lang/String" "value" "[B") .byte) (List.mem_of_getElem? (i := 547) (by decide +kernel))) (hs (Cond.eq (.length (.field (.string "RootwalkModel" 93) "java/lang/String" "value" "[B")) (.int 16)) (List.mem_of_getElem? (i := 548) (by decide +kernel))) (fun j hj => hs _ (List.mem_of_getElem? (i := 549 + j) ((show ∀ j : Nat, j < 16 → FLs[549 + j]? = some (Cond.eq (.elem (.field (.string "RootwalkModel" 93) "java/lang/String" "value" "[B") (.int (Int32.ofNat j))) (.int ((kBy 3).getD j 0))) by decide +kernel) j hj))) hA
  obtain ⟨q4, r4⟩ := st_s (hts (Cond.stringRef "Rootwalk" 182 "") (List.mem_of_getElem? (i := 1222) (by decide +kernel))) (hs (Cond.exactly (.string "Rootwalk" 182) "java/lang/String") (List.mem_of_getElem? (i := 502) (by decide +kernel)))
  obtain ⟨q5, r5⟩ := st_s (hts (Cond.stringRef "Rootwalk" 343 "not 0 to 2") (List.mem_of_getElem? (i := 994) (by decide +kernel))) (hs (Cond.exactly (.string "Rootwalk" 343) "java/lang/String") (List.mem_of_getElem? (i := 447) (by decide +kernel)))
  obtain ⟨q6, r6⟩ := st_s (hts (Cond.stringRef "Rootwalk" 350 "out of its range") (List.mem_of_getElem? (i := 957) (by decide +kernel))) (hs (Cond.exactly (.string "Rootwalk" 350) "java/lang/String") (List.mem_of_getElem? (i := 421) (by decide +kernel)))
  obtain ⟨q7, r7⟩ := st_s (hts (Cond.stringRef "Rootwalk" 353 "a square is not a BASE") (List.mem_of_getElem? (i := 1002) (by decide +kernel))) (hs (Cond.exactly (.string "Rootwalk" 353) "java/lang/String") (List.mem_of_getElem? (i := 468) (by decide +kernel)))
  refine ⟨fun i => match i with | 0 => q0 | 1 => q1 | 2 => q2 | 3 => q3 | 4 => q4 | 5 => q5 | 6 => q6 | _ => q7, fun i => match i with | 0 => v0 | 1 => v1 | 2 => v2 | _ => v3, fun i t h => ?_, fun i hi => ?_⟩
  · match i, h with
    | 0, h => cases h; exact r0
    | 1, h => cases h; exact r1
    | 2, h => cases h; exact r2
    | 3, h => cases h; exact r3
    | 4, h => cases h; exact r4
    | 5, h => cases h; exact r5
    | 6, h => cases h; exact r6
    | 7, h => cases h; exact r7
    | i + 8, h => simp [kTx] at h
  · match i, hi with
    | 0, _ => exact s0
    | 1, _ => exact s1
    | 2, _ => exact s2
    | 3, _ => exact s3
    | i + 4, hi => exact absurd hi (by omega)
theorem st_d1 {s : State} {a : Array Value} (hts : ∀ w ∈ lw_tbl, w.before a s = true) (hs : ∀ w ∈ FLs, w.before a s = true) {A : Nat → Prop} (hA : ∀ q : Nat, q < s.heap.size → ¬ A q) : ∃ t, va_Z "java/lang/Integer" "DigitOnes" "[B" (.ref t) A s s.heap ∧ ∃ d : Nat → Int32, va_T .byte t 100 (fun j => .int (d j)) A s s.heap := by
  obtain ⟨t, h1, h2⟩ := va_Tof (args := a) (s := s) (tm := .static "java/lang/Integer" "DigitOnes" "[B") (ty := .byte) (N := 100) (f := fun j => .int (Int32.ofNat (48 + j % 10))) (A := A) (by decide) (hs (Cond.arrayOf (.static "java/lang/Integer" "DigitOnes" "[B") .byte) (List.mem_of_getElem? (i := 10) (by decide +kernel))) (va_eqt (hs (Cond.eq (.length (.static "java/lang/Integer" "DigitOnes" "[B")) (.int 100)) (List.mem_of_getElem? (i := 11) (by decide +kernel)))) (fun j hj => va_eqt (hs _ (List.mem_of_getElem? (i := 12 + j) ((show ∀ j : Nat, j < 100 → FLs[12 + j]? = some (Cond.eq (.elem (.static "java/lang/Integer" "DigitOnes" "[B") (.int (Int32.ofNat j))) (.int (Int32.ofNat (48 + j % 10)))) by decide +kernel) j hj)))) hA
  exact ⟨t, va_Zref (hts (Cond.laysStatic "java/lang/Integer" "DigitOnes" "[B") (List.mem_of_getElem? (i := 504) (by decide +kernel))) (hts (Cond.initialized "java/lang/Integer") (List.mem_of_getElem? (i := 60) (by decide +kernel))) h1 hA, fun j => Int32.ofNat (48 + j % 10), h2⟩
theorem st_d2 {s : State} {a : Array Value} (hts : ∀ w ∈ lw_tbl, w.before a s = true) (hs : ∀ w ∈ FLs, w.before a s = true) {A : Nat → Prop} (hA : ∀ q : Nat, q < s.heap.size → ¬ A q) : ∃ t, va_Z "java/lang/Integer" "DigitTens" "[B" (.ref t) A s s.heap ∧ ∃ d : Nat → Int32, va_T .byte t 100 (fun j => .int (d j)) A s s.heap := by
  obtain ⟨t, h1, h2⟩ := va_Tof (args := a) (s := s) (tm := .static "java/lang/Integer" "DigitTens" "[B") (ty := .byte) (N := 100) (f := fun j => .int (Int32.ofNat (48 + j / 10))) (A := A) (by decide) (hs (Cond.arrayOf (.static "java/lang/Integer" "DigitTens" "[B") .byte) (List.mem_of_getElem? (i := 113) (by decide +kernel))) (va_eqt (hs (Cond.eq (.length (.static "java/lang/Integer" "DigitTens" "[B")) (.int 100)) (List.mem_of_getElem? (i := 114) (by decide +kernel)))) (fun j hj => va_eqt (hs _ (List.mem_of_getElem? (i := 115 + j) ((show ∀ j : Nat, j < 100 → FLs[115 + j]? = some (Cond.eq (.elem (.static "java/lang/Integer" "DigitTens" "[B") (.int (Int32.ofNat j))) (.int (Int32.ofNat (48 + j / 10)))) by decide +kernel) j hj)))) hA
  exact ⟨t, va_Zref (hts (Cond.laysStatic "java/lang/Integer" "DigitTens" "[B") (List.mem_of_getElem? (i := 506) (by decide +kernel))) (hts (Cond.initialized "java/lang/Integer") (List.mem_of_getElem? (i := 60) (by decide +kernel))) h1 hA, fun j => Int32.ofNat (48 + j / 10), h2⟩
theorem st_nw {s : State} {a : Array Value} (hts : ∀ w ∈ lw_tbl, w.before a s = true) : ∀ (i : Nat) (q : String × Nat × MethodName × String), nWs[i]? = some q → va_Nw (.methodLinkNest q.1 q.2.1 q.2.2.1 q.2.2.2) s := by
  intro i q h
  match i, h with
  | 0, h => cases h; exact va_Nw.of rfl (hts (Cond.methodLinkNest "Rootwalk$Fraction" 30 ⟨"Rootwalk$Whole", "<init>", "()V"⟩ "Rootwalk") (List.mem_of_getElem? (i := 86) (by decide +kernel)))
  | 1, h => cases h; exact va_Nw.of rfl (hts (Cond.methodLinkNest "Rootwalk" 36 ⟨"Rootwalk$Desk", "<init>", "()V"⟩ "Rootwalk") (List.mem_of_getElem? (i := 126) (by decide +kernel)))
  | 2, h => cases h; exact va_Nw.of rfl (hts (Cond.methodLinkNest "Rootwalk$Desk" 11 ⟨"Rootwalk$Whole", "<init>", "()V"⟩ "Rootwalk") (List.mem_of_getElem? (i := 131) (by decide +kernel)))
  | 3, h => cases h; exact va_Nw.of rfl (hts (Cond.methodLinkNest "Rootwalk$Pair" 17 ⟨"Rootwalk$Whole", "<init>", "()V"⟩ "Rootwalk") (List.mem_of_getElem? (i := 155) (by decide +kernel)))
  | 4, h => cases h; exact va_Nw.of rfl (hts (Cond.methodLinkNest "Rootwalk$Split" 26 ⟨"Rootwalk", "restOfPower", "(III)I"⟩ "Rootwalk") (List.mem_of_getElem? (i := 200) (by decide +kernel)))
  | 5, h => cases h; exact va_Nw.of rfl (hts (Cond.methodLinkNest "Rootwalk" 60 ⟨"Rootwalk$Walk", "<init>", "()V"⟩ "Rootwalk") (List.mem_of_getElem? (i := 239) (by decide +kernel)))
  | 6, h => cases h; exact va_Nw.of rfl (hts (Cond.methodLinkNest "Rootwalk$Fraction" 35 ⟨"Rootwalk", "rootOf", "(I)I"⟩ "Rootwalk") (List.mem_of_getElem? (i := 785) (by decide +kernel)))
  | 7, h => cases h; exact va_Nw.of rfl (hts (Cond.methodLinkNest "Rootwalk$Split" 55 ⟨"Rootwalk", "rest", "(JI)I"⟩ "Rootwalk") (List.mem_of_getElem? (i := 904) (by decide +kernel)))
  | 8, h => cases h; exact va_Nw.of rfl (hts (Cond.methodLinkNest "RootwalkLaw" 173 ⟨"RootwalkLaw$Out", "<init>", "()V"⟩ "RootwalkLaw") (List.mem_of_getElem? (i := 962) (by decide +kernel)))
  | i + 9, h => simp [nWs] at h
theorem st_ht {s : State} {a : Array Value} {D : va_G} {ca : Nat → ClassId} (hts : ∀ w ∈ lw_tbl, w.before a s = true) (hs : ∀ w ∈ FLs, w.before a s = true) : ∃ K : KC, HT K (D, ca, s.heap.size) s s.heap := by
  have hA : ∀ q : Nat, q < s.heap.size → ¬ gA (D, ca, s.heap.size) q := fun q hq => Nat.not_le.mpr hq
  obtain ⟨kA, kV, h1, h2⟩ := st_tx hts hs hA
  obtain ⟨t1, d1, e1⟩ := st_d1 hts hs hA
  obtain ⟨t2, d2, e2⟩ := st_d2 hts hs hA
  exact ⟨(kA, kV, t1, t2), h1, h2, va_Zof (hts (Cond.laysStatic "java/lang/String" "COMPACT_STRINGS" "Z") (List.mem_of_getElem? (i := 333) (by decide +kernel))) (hts (Cond.initialized "java/lang/String") (List.mem_of_getElem? (i := 53) (by decide +kernel))) (va_eqi (hs (Cond.eq (.static "java/lang/String" "COMPACT_STRINGS" "Z") (.int 1)) (List.mem_of_getElem? (i := 4) (by decide +kernel)))) hA, va_Zqof (hts (Cond.laysStatic "jdk/internal/util/Preconditions" "SIOOBE_FORMATTER" "Ljava/util/function/BiFunction;") (List.mem_of_getElem? (i := 434) (by decide +kernel))) (hts (Cond.initialized "jdk/internal/util/Preconditions") (List.mem_of_getElem? (i := 57) (by decide +kernel))) (hs (Cond.isRef (.static "jdk/internal/util/Preconditions" "SIOOBE_FORMATTER" "Ljava/util/function/BiFunction;")) (List.mem_of_getElem? (i := 5) (by decide +kernel))) hA, ⟨d1, e1⟩, ⟨d2, e2⟩, vx_Zqof (hts (Cond.laysStatic "java/lang/Throwable" "UNASSIGNED_STACK" "[Ljava/lang/StackTraceElement;") (List.mem_of_getElem? (i := 578) (by decide +kernel))) (hts (Cond.initialized "java/lang/Throwable") (List.mem_of_getElem? (i := 45) (by decide +kernel))) (hs (Cond.isRef (.static "java/lang/Throwable" "UNASSIGNED_STACK" "[Ljava/lang/StackTraceElement;")) (List.mem_of_getElem? (i := 215) (by decide +kernel))) hA, vx_Zqof (hts (Cond.laysStatic "java/lang/Throwable" "SUPPRESSED_SENTINEL" "Ljava/util/List;") (List.mem_of_getElem? (i := 580) (by decide +kernel))) (hts (Cond.initialized "java/lang/Throwable") (List.mem_of_getElem? (i := 45) (by decide +kernel))) (hs (Cond.isRef (.static "java/lang/Throwable" "SUPPRESSED_SENTINEL" "Ljava/util/List;")) (List.mem_of_getElem? (i := 216) (by decide +kernel))) hA, st_nw hts⟩
theorem st_hx {s : State} {a : Array Value} (hts : ∀ w ∈ lw_tbl, w.before a s = true) (hs : ∀ w ∈ FLs, w.before a s = true) : HX s := ⟨va_Nw.of rfl (hts (Cond.castable "java/lang/IndexOutOfBoundsException" "java/lang/IndexOutOfBoundsException") (List.mem_of_getElem? (i := 987) (by decide +kernel))), va_Nw.of rfl (hts (Cond.castable "java/lang/IllegalArgumentException" "java/lang/IllegalArgumentException") (List.mem_of_getElem? (i := 553) (by decide +kernel))), va_Nc.of (hs (Cond.not (.castable "java/lang/IllegalArgumentException" "java/lang/IndexOutOfBoundsException")) (List.mem_of_getElem? (i := 226) (by decide +kernel))), va_Nw.of rfl (hts (Cond.declares ⟨"java/lang/RuntimeException", "<init>", "(Ljava/lang/String;)V"⟩) (List.mem_of_getElem? (i := 555) (by decide +kernel))), va_Nw.of rfl (hts (Cond.declares ⟨"java/lang/Exception", "<init>", "(Ljava/lang/String;)V"⟩) (List.mem_of_getElem? (i := 557) (by decide +kernel))), va_Nw.of rfl (hts (Cond.declares ⟨"java/lang/Throwable", "<init>", "(Ljava/lang/String;)V"⟩) (List.mem_of_getElem? (i := 559) (by decide +kernel))), va_Nw.of rfl (hts (Cond.fieldLinkNest RL 13 RX7 "n" "J" RL) (List.mem_of_getElem? (i := 966) (by decide +kernel))), va_Nw.of rfl (hts (Cond.fieldLinkNest RL 40 RX7 "s" "Ljava/lang/String;" RL) (List.mem_of_getElem? (i := 967) (by decide +kernel)))⟩
theorem gl_entry {L : List (Option Value)} {vs : List Value} {maxL : Nat} (hL : lA vs maxL = L) (hle : (lg_sl vs).length ≤ maxL) : gL ((lg_sl vs ++ List.replicate (maxL - (lg_sl vs).length) Slot.unset).toArray) maxL L := by
  refine ⟨(lv_entry vs hle).1, (lv_entry vs hle).2.1, fun i v h => ?_⟩
  subst hL
  unfold lA at h
  rw [List.getElem?_map] at h
  cases hx : (lg_sl vs ++ List.replicate (maxL - (lg_sl vs).length) Slot.unset)[i]? with
  | none => rw [hx] at h; cases h
  | some sl =>
    rw [hx] at h
    cases sl with
    | val u =>
      simp [slV] at h
      subst h
      rw [List.getElem?_toArray]
      exact hx
    | _ => simp [slV] at h
