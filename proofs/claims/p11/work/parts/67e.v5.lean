/-! the class's numbers: contracts that say the number -/
theorem Sp.imp {E : GE} {l : Launch} {y : MethodName} {cc : ByteArray} {maxL : Nat} {ret : Option FieldType} {dep mc ms : Nat} {av : List Value} {w : Wd} {Post Post' : Option Value → Wd → Prop} (h : Sp E l y cc maxL ret dep mc ms av w Post) (hp : ∀ r w', Post r w' → Post' r w') : Sp E l y cc maxL ret dep mc ms av w Post' := by
  intro p e ha hc hk s m args below hf happ hP hK
  obtain ⟨n, o, h1, h2, h3, ⟨⟨v, w', q1, q2, q3⟩, q4⟩, q5⟩ := h p e ha hc hk s m args below hf happ hP hK
  exact ⟨n, o, h1, h2, h3, ⟨⟨v, w', q1, hp _ _ q2, q3⟩, q4⟩, q5⟩
theorem WA.ws {w : Wd} {a r : Nat} {z : Int} (h : WA w a r z) : WS w a r := by
  obtain ⟨f, u, bl, k, n⟩ := h.ra
  exact ⟨f, u, bl, k.1, k.2.1, k.2.2.1.1, k.2.2.1.2.1, k.2.2.2⟩
theorem WA.cap {w : Wd} {a r : Nat} {z : Int} (h : WA w a r z) : aB z < B28 ^ 18 := by
  obtain ⟨f, u, bl, k, n⟩ := h.ra
  rw [n.ab.1]
  exact Int.lt_of_lt_of_le k.2.2.1.lt (pw28_le k.2.2.1.2.1)
theorem aB_0 (z : Int) : 0 ≤ aB z := by unfold aB; split <;> omega
theorem aB_p {z : Int} (h : 0 ≤ z) : aB z = z := by unfold aB; rw [if_neg (by omega)]
theorem V18n {f : Nat → Int} {u : Nat} {bl z : Int} (h : WN f u bl z) : V18 f = aB z := h.ab.1.symm
theorem u_X5_multiplySmall (l : Launch) {E : GE} {w : Wd} {a r : Nat} {z : Int} (h1 : WA w a r z) {by_ mo : Int} (hby : 0 ≤ by_ ∧ by_ ≤ 1000) (hmo : 0 ≤ mo ∧ mo ≤ 1000) (hz : 0 ≤ z ∨ mo = 0) (hbd : aB z * by_ + mo < B28 ^ 18) : Sp E l yX5_multiplySmall cX5_multiplySmall 7 none 1 (0) (0) [.ref a, iI by_, iI mo] w (fun r' w' => r' = none ∧ WA w' a r (z * by_ + mo) ∧ FrW w w' a r) := by
  obtain ⟨f, u, bl, k1, n1⟩ := h1.ra
  have e1 := V18n n1
  have s1 := n1.z
  have a1 := n1.ab.2.1
  have b1 := k1.2.2.2
  refine (v_X5_multiplySmall l k1 hby hmo (by rw [e1]; exact hbd)).imp ?_
  rintro r' w' ⟨q1, f', u', hr, hv, fr⟩
  refine ⟨q1, (hr.wa b1).eq ?_, fr⟩
  rw [hv]
  rcases s1 with ⟨c1, c2⟩ | ⟨c1, c2⟩
  · rw [if_pos c1, show mo = 0 by omega, c2, Int.neg_mul]; omega
  · rw [if_neg (by omega), ← c2]
theorem u_X5_divideSmall (l : Launch) {E : GE} {w : Wd} {a r : Nat} {z : Int} (h1 : WA w a r z) {y : Int} (hy : 1 ≤ y ∧ y ≤ 1000) : Sp E l yX5_divideSmall cX5_divideSmall 7 (some .int) 1 (0) (0) [.ref a, iI y] w (fun r' w' => ∃ d q : Int, r' = some (iI d) ∧ 0 ≤ d ∧ d < y ∧ WA w' a r q ∧ aB q * y + d = aB z ∧ (0 ≤ z → 0 ≤ q) ∧ (z ≤ 0 → q ≤ 0) ∧ FrW w w' a r) := by
  obtain ⟨f, u, bl, k1, n1⟩ := h1.ra
  have e1 := V18n n1
  have s1 := n1.z
  have a1 := n1.ab.2.1
  have b1 := k1.2.2.2
  refine (v_X5_divideSmall l k1 hy).imp ?_
  rintro r' w' ⟨d, q1, q2, q3, f', u', hr, hv, fr⟩
  have h0 := V18_0 hr.2.2.1.1
  have hw := hr.wa b1
  refine ⟨d, _, q1, q2, q3, hw, ?_, fun _ => ?_, fun _ => ?_, fr⟩
  · rw [← e1, ← hv]
    congr 1
    congr 1
    rcases s1 with ⟨c1, c2⟩ | ⟨c1, c2⟩
    · rw [if_pos c1, aB_neg, aB_p h0]
    · rw [if_neg (by omega), aB_p h0]
  · rcases s1 with ⟨c1, c2⟩ | ⟨c1, c2⟩
    · omega
    · rw [if_neg (by omega)]; exact h0
  · rcases s1 with ⟨c1, c2⟩ | ⟨c1, c2⟩
    · rw [if_pos c1]; omega
    · rw [if_neg (by omega)]
      have hz : V18 f = 0 := by have := V18_0 k1.2.2.1.1; omega
      rw [hz] at hv
      rcases Int.lt_or_le 0 (V18 f') with c | c
      · have := Int.mul_le_mul c hy.1 (by omega) h0
        omega
      · exact c
theorem u_X5_compareSize (l : Launch) {E : GE} {w : Wd} {a r b s : Nat} {z1 z2 : Int} (h1 : WA w a r z1) (h2 : WA w b s z2) : Sp E l yX5_compareSize cX5_compareSize 3 (some .int) 1 (0) (0) [.ref a, .ref b] w (fun r' w' => (∃ d : Int, r' = some (iI d) ∧ (aB z1 < aB z2 ∧ d = -1 ∨ aB z1 = aB z2 ∧ d = 0 ∨ aB z2 < aB z1 ∧ d = 1)) ∧ w' = w) := by
  obtain ⟨f, u, bl, k1, n1⟩ := h1.ra
  have e1 := V18n n1
  have s1 := n1.z
  have a1 := n1.ab.2.1
  have b1 := k1.2.2.2
  obtain ⟨g, v, bm, k2, n2⟩ := h2.ra
  have e2 := V18n n2
  have s2 := n2.z
  have a2 := n2.ab.2.1
  have b2 := k2.2.2.2
  rw [← e1, ← e2]
  exact c_X5_compareSize l k1 k2
theorem u_X5_addSize (l : Launch) {E : GE} {w : Wd} {a r b s : Nat} {z1 z2 : Int} (h1 : WA w a r z1) (h2 : WA w b s z2) (hrs : r ≠ s) (p1 : 0 ≤ z1) (p2 : 0 ≤ z2) (hbd : z1 + z2 < B28 ^ 18) : Sp E l yX5_addSize cX5_addSize 5 none 1 (0) (0) [.ref a, .ref b] w (fun r' w' => r' = none ∧ WA w' a r (z1 + z2) ∧ FrW w w' a r) := by
  obtain ⟨f, u, bl, k1, n1⟩ := h1.ra
  have e1 := V18n n1
  have s1 := n1.z
  have a1 := n1.ab.2.1
  have b1 := k1.2.2.2
  obtain ⟨g, v, bm, k2, n2⟩ := h2.ra
  have e2 := V18n n2
  have s2 := n2.z
  have a2 := n2.ab.2.1
  have b2 := k2.2.2.2
  rw [aB_p p1] at e1
  rw [aB_p p2] at e2
  refine (c_X5_addSize l k1 k2 hrs (by rw [e1, e2]; exact hbd)).imp ?_
  rintro r' w' ⟨q1, f', u', hr, hv, fr⟩
  refine ⟨q1, (hr.wa b1).eq ?_, fr⟩
  rw [hv, if_neg (by omega), e1, e2]
theorem u_X5_takeSize (l : Launch) {E : GE} {w : Wd} {a r b s : Nat} {z1 z2 : Int} (h1 : WA w a r z1) (h2 : WA w b s z2) (hrs : r ≠ s) (p1 : 0 ≤ z2) (p2 : z2 ≤ z1) : Sp E l yX5_takeSize cX5_takeSize 6 none 1 (0) (0) [.ref a, .ref b] w (fun r' w' => r' = none ∧ WA w' a r (z1 - z2) ∧ FrW w w' a r) := by
  obtain ⟨f, u, bl, k1, n1⟩ := h1.ra
  have e1 := V18n n1
  have s1 := n1.z
  have a1 := n1.ab.2.1
  have b1 := k1.2.2.2
  obtain ⟨g, v, bm, k2, n2⟩ := h2.ra
  have e2 := V18n n2
  have s2 := n2.z
  have a2 := n2.ab.2.1
  have b2 := k2.2.2.2
  rw [aB_p (by omega)] at e1
  rw [aB_p p1] at e2
  refine (c_X5_takeSize l k1 k2 hrs (by rw [e1, e2]; exact p2)).imp ?_
  rintro r' w' ⟨q1, f', u', hr, hv, fr⟩
  refine ⟨q1, (hr.wa b1).eq ?_, fr⟩
  rw [hv, if_neg (by omega), e1, e2]
theorem u_X5_shiftUp (l : Launch) {E : GE} {w : Wd} {a r : Nat} {z : Int} (h1 : WA w a r z) {mn : Nat} (hmn : mn ≤ 2000) (hz : 0 < z) (hbd : z * 2 ^ mn < B28 ^ 18) : Sp E l yX5_shiftUp cX5_shiftUp 9 none 1 (0) (0) [.ref a, iI (mn : Int)] w (fun r' w' => r' = none ∧ WA w' a r (z * 2 ^ mn) ∧ FrW w w' a r) := by
  obtain ⟨f, u, bl, k1, n1⟩ := h1.ra
  have e1 := V18n n1
  have s1 := n1.z
  have a1 := n1.ab.2.1
  have b1 := k1.2.2.2
  rw [aB_p (by omega)] at e1
  have hu : 0 < u := by
    have := n1.ab.2.2
    rcases Nat.eq_zero_or_pos u with c | c
    · have := this.mp c; omega
    · exact c
  refine (v_X5_shiftUp l k1 hmn hu (by rw [e1]; exact hbd)).imp ?_
  rintro r' w' ⟨q1, f', u', hr, hv, fr⟩
  refine ⟨q1, (hr.wa b1).eq ?_, fr⟩
  rw [hv, if_neg (by omega), e1]
theorem u_X5_bits (l : Launch) {E : GE} {w : Wd} {a r : Nat} {z : Int} (h1 : WA w a r z) : Sp E l yX5_bits cX5_bits 2 (some .int) 1 (0) (0) [.ref a] w (fun r' w' => r' = some (iI (hiB (aB z) 504 + 1)) ∧ w' = w) := by
  obtain ⟨f, u, bl, k1, n1⟩ := h1.ra
  have e1 := V18n n1
  have s1 := n1.z
  have a1 := n1.ab.2.1
  have b1 := k1.2.2.2
  rw [← e1]
  exact v_X5_bits l k1
theorem u_X5_ones (l : Launch) {E : GE} {w : Wd} {a r : Nat} {z : Int} (h1 : WA w a r z) : Sp E l yX5_ones cX5_ones 3 (some .int) 1 (0) (0) [.ref a] w (fun r' w' => r' = some (iI (onB (aB z) 504)) ∧ w' = w) := by
  obtain ⟨f, u, bl, k1, n1⟩ := h1.ra
  have e1 := V18n n1
  have s1 := n1.z
  have a1 := n1.ab.2.1
  have b1 := k1.2.2.2
  rw [← e1]
  exact v_X5_ones l k1
theorem u_X5_zerosBehind (l : Launch) {E : GE} {w : Wd} {a r : Nat} {z : Int} (h1 : WA w a r z) : Sp E l yX5_zerosBehind cX5_zerosBehind 2 (some .int) 1 (0) (0) [.ref a] w (fun r' w' => r' = some (iI (loB (aB z) 504)) ∧ w' = w) := by
  obtain ⟨f, u, bl, k1, n1⟩ := h1.ra
  have e1 := V18n n1
  have s1 := n1.z
  have a1 := n1.ab.2.1
  have b1 := k1.2.2.2
  rw [← e1]
  exact v_X5_zerosBehind l k1
theorem u_X5_hasBit (l : Launch) {E : GE} {w : Wd} {a r : Nat} {z : Int} (h1 : WA w a r z) {p : Nat} (hp : p ≤ 1000) : Sp E l yX5_hasBit cX5_hasBit 3 (some .boolean) 0 (0) (0) [.ref a, iI (p : Int)] w (fun r' w' => r' = some (iI (bI (bt (aB z) p = 1))) ∧ w' = w) := by
  obtain ⟨f, u, bl, k1, n1⟩ := h1.ra
  have e1 := V18n n1
  have s1 := n1.z
  have a1 := n1.ab.2.1
  have b1 := k1.2.2.2
  rw [← e1]
  exact v_X5_hasBit l k1 hp
theorem bits_r {z : Int} : 0 ≤ hiB (aB z) 504 + 1 ∧ hiB (aB z) 504 + 1 ≤ 504 := by have := hiB_r (aB z) 504; omega
theorem bits_lt {z : Int} (hc : aB z < B28 ^ 18) : aB z < 2 ^ (hiB (aB z) 504 + 1).toNat := by
  have h0 := aB_0 z
  rw [← p504] at hc
  have e : aB z % 2 ^ 504 = aB z := Int.emod_eq_of_lt h0 hc
  rcases hiB_len h0 (p := 504) with ⟨a, b⟩ | ⟨q, a, b, c⟩
  · rw [e] at b; rw [a, b]; decide
  · rw [e] at b c
    rw [a, show ((q : Int) + 1).toNat = q + 1 by omega]
    exact c
theorem bits_ge {z : Int} (hc : aB z < B28 ^ 18) (hz : 0 < aB z) : ∃ q : Nat, hiB (aB z) 504 + 1 = (q : Int) + 1 ∧ q < 504 ∧ 2 ^ q ≤ aB z ∧ aB z < 2 ^ (q + 1) := by
  have h0 := aB_0 z
  have hr := hiB_r (aB z) 504
  rw [← p504] at hc
  have e : aB z % 2 ^ 504 = aB z := Int.emod_eq_of_lt h0 hc
  rcases hiB_len h0 (p := 504) with ⟨a, b⟩ | ⟨q, a, b, c⟩
  · rw [e] at b; omega
  · rw [e] at b c
    exact ⟨q, by omega, by omega, b, c⟩
theorem bits_80 {z : Int} (hc : aB z < B28 ^ 18) : 80 < hiB (aB z) 504 + 1 ↔ LGN ≤ aB z := by
  rw [← p504] at hc
  have := hiB_gt (v := aB z) (p := 504) (k := 80) (aB_0 z) hc
  rw [p2_80] at this
  exact this
