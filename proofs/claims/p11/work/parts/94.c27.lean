/-! where the class's cells lie behind one another -/
def off (t : Nat) : Nat :=
  if t < 110 then t - 101 else if t = 110 then 117
  else if 120 ≤ t ∧ t < 123 then 144 + 7 * (t - 120)
  else if 130 ≤ t ∧ t < 133 then 150 + 7 * (t - 130)
  else if t = 133 then 142 else if t = 134 then 143
  else if 140 ≤ t ∧ t < 143 then 145 + 7 * (t - 140)
  else if 143 ≤ t ∧ t < 146 then 127 + 5 * (t - 143)
  else if 200 ≤ t ∧ t < 208 then t - 82
  else if 208 ≤ t ∧ t < 220 then 146 + 7 * ((t - 208) / 4) + (t - 208) % 4
  else if 220 ≤ t ∧ t < 232 then 128 + 5 * ((t - 220) / 4) + (t - 220) % 4
  else if 232 ≤ t ∧ t < 286 then 9 + 4 * ((t - 232) / 2) + (t - 232) % 2
  else if 286 ≤ t ∧ t < 340 then 11 + 4 * ((t - 286) / 2) + (t - 286) % 2
  else if t = 340 then 126 else 1000 + t
def offI (n : Nat) : Nat := ((List.range 341).find? (fun t => decide (101 ≤ t) && off t == n)).getD 9
theorem off_chk : ((List.range 341).all fun t => decide (t < 101) || offI (off t) == t) = true := by decide +kernel
theorem offI_off {t : Nat} (h1 : 101 ≤ t) (h2 : t ≤ 340) : offI (off t) = t := by
  have := List.all_eq_true.mp off_chk t (List.mem_range.mpr (by omega))
  simp only [Bool.or_eq_true, decide_eq_true_eq, beq_iff_eq] at this
  omega
theorem off_w (i : Nat) (hi : i < 3) : off (120 + i) = 144 + 7 * i ∧ off (130 + i) = 150 + 7 * i ∧ off (140 + i) = 145 + 7 * i ∧ off (143 + i) = 127 + 5 * i ∧ off (208 + 4 * i) = 146 + 7 * i ∧ off (209 + 4 * i) = 147 + 7 * i ∧ off (210 + 4 * i) = 148 + 7 * i ∧ off (211 + 4 * i) = 149 + 7 * i ∧ off (220 + 4 * i) = 128 + 5 * i ∧ off (221 + 4 * i) = 129 + 5 * i ∧ off (222 + 4 * i) = 130 + 5 * i ∧ off (223 + 4 * i) = 131 + 5 * i := by
  rcases (show i = 0 ∨ i = 1 ∨ i = 2 by omega) with q | q | q <;> subst q <;> decide
theorem off_chk2 : ((List.range 27).all fun k => off (232 + 2 * k) == 9 + 4 * k && off (233 + 2 * k) == 10 + 4 * k && off (286 + 2 * k) == 11 + 4 * k && off (287 + 2 * k) == 12 + 4 * k) = true := by decide +kernel
theorem off_k (k : Nat) (hk : k < 27) : off (232 + 2 * k) = 9 + 4 * k ∧ off (233 + 2 * k) = 10 + 4 * k ∧ off (286 + 2 * k) = 11 + 4 * k ∧ off (287 + 2 * k) = 12 + 4 * k := by
  have := List.all_eq_true.mp off_chk2 k (List.mem_range.mpr hk)
  simp only [Bool.and_eq_true, beq_iff_eq] at this
  omega
def adB (x B : Nat) : Nat → Nat := fun t => if t = 100 then x else B + off t
def taB (τ : Nat → Nat) (x B : Nat) : Nat → Nat := fun a => if a = x then 100 else if a < B then τ a else offI (a - B)
theorem adB_n {x B t : Nat} (h : t ≠ 100) : adB x B t = B + off t := if_neg h
theorem GB2 : GB 2 := ⟨by omega, by omega, fun m h => by
  rcases Int.lt_or_le m 0 with q | q
  · rcases Int.lt_or_le (-2) m with c | c
    · have : m = -1 := by omega
      subst this
      omega
    · have := Int.mul_le_mul (show 2 ≤ -m by omega) (show 2 ≤ -m by omega) (by omega) (by omega)
      rw [Int.neg_mul_neg] at this
      omega
  · rcases Int.lt_or_le m 2 with c | c
    · rcases (show m = 0 ∨ m = 1 by omega) with e | e <;> subst e <;> omega
    · have := Int.mul_le_mul c c (by omega) (by omega)
      omega⟩
theorem SV50 : SV 5 0 := ⟨by decide +kernel, fun i hi => absurd hi (Nat.not_lt_zero _)⟩
theorem cs_init {τ : Nat → Nat} {u : Wd} {x B : Nat} (hx : x < B) {R1 R2 R3 T1 T2 : Nat → Option Nat}
    (ho : u.2 x = some (true, eO 8 [.ref B, .ref (B + 1), .ref (B + 2), .ref (B + 3), .ref (B + 117), .ref (B + 127), .ref (B + 132), .ref (B + 137), .ref (B + 142), .ref (B + 143), iI 0, iI 0, iI 0, iI 0, iI 0]))
    (h1 : u.2 B = some (true, eR 3 3 R1)) (h2 : u.2 (B + 1) = some (true, eR 4 3 R2)) (h3 : u.2 (B + 2) = some (true, eR 5 3 R3))
    (hL : ∀ j, j < 3 → R1 j = some (B + 144 + 7 * j) ∧ R2 j = some (B + 145 + 7 * j) ∧ R3 j = some (B + 150 + 7 * j) ∧ u.2 (B + 144 + 7 * j) = some (true, eO 6 [iI 2, iI 0]) ∧ u.2 (B + 145 + 7 * j) = some (true, eO 4 [iI 2, .ref (B + 146 + 7 * j), .ref (B + 148 + 7 * j)]) ∧ WA u (B + 146 + 7 * j) (B + 147 + 7 * j) 1 ∧ WA u (B + 148 + 7 * j) (B + 149 + 7 * j) 0 ∧ u.2 (B + 150 + 7 * j) = some (true, oS 5 0))
    (hf : u.2 (B + 3) = some (true, eO 3 [iI 0, iI 0, .ref (B + 4), .ref (B + 5), .ref (B + 6), .ref (B + 7), .ref (B + 8)])) (f1 : u.2 (B + 4) = some (true, eI 26 (fun _ => 0))) (f2 : u.2 (B + 5) = some (true, eI 26 (fun _ => 0))) (f3 : u.2 (B + 6) = some (true, eI 26 (fun _ => 0)))
    (f4 : u.2 (B + 7) = some (true, eR 6 27 T1)) (f5 : u.2 (B + 8) = some (true, eR 6 27 T2)) (hT : ∀ k, k < 27 → T1 k = some (B + 9 + 4 * k) ∧ T2 k = some (B + 11 + 4 * k) ∧ WS u (B + 9 + 4 * k) (B + 10 + 4 * k) ∧ WS u (B + 11 + 4 * k) (B + 12 + 4 * k))
    (hd : u.2 (B + 117) = some (true, eO 2 [.ref (B + 118), .ref (B + 120), .ref (B + 122), .ref (B + 124), .ref (B + 126)])) (d0 : WS u (B + 118) (B + 119)) (d1 : WS u (B + 120) (B + 121)) (d2 : WS u (B + 122) (B + 123)) (d3 : WS u (B + 124) (B + 125)) (d4 : u.2 (B + 126) = some (true, eB 63 (fun _ => 0)))
    (hp : ∀ j, j < 3 → u.2 (B + 127 + 5 * j) = some (true, eO 4 [iI 2, .ref (B + 128 + 5 * j), .ref (B + 130 + 5 * j)]) ∧ WA u (B + 128 + 5 * j) (B + 129 + 5 * j) 1 ∧ WA u (B + 130 + 5 * j) (B + 131 + 5 * j) 0)
    (hr : u.2 (B + 142) = some (true, oS 5 0)) (hr2 : u.2 (B + 143) = some (true, oS 5 0)) : CS (taB τ x B) (adB x B) u (fun _ => 2) (fun _ => 0) (fun _ => (2, 1, 0)) (fun _ => 5) (fun _ => 0) (fun _ => 0) := by
  have an : ∀ {t : Nat}, t ≠ 100 → adB x B t = B + off t := fun h => adB_n h
  have e : ∀ (t n : Nat), t ≠ 100 → off t = n → adB x B t = B + n := fun t n h g => by rw [an h, g]
  have hnum : ∀ i, i < 6 → NW (adB x B) u (4 + 2 * i) 1 ∧ NW (adB x B) u (5 + 2 * i) 0 := fun i hi => by
    unfold NW wo wr
    by_cases c2 : i < 3
    · have g := off_w i c2
      have l := hL i c2
      constructor
      · rw [show 200 + 2 * (4 + 2 * i) = 208 + 4 * i by omega, show 201 + 2 * (4 + 2 * i) = 209 + 4 * i by omega, an (by omega), an (by omega), g.2.2.2.2.1, g.2.2.2.2.2.1]
        have := l.2.2.2.2.2.1
        rw [Nat.add_assoc, Nat.add_assoc] at this
        exact this
      · rw [show 200 + 2 * (5 + 2 * i) = 210 + 4 * i by omega, show 201 + 2 * (5 + 2 * i) = 211 + 4 * i by omega, an (by omega), an (by omega), g.2.2.2.2.2.2.1, g.2.2.2.2.2.2.2.1]
        have := l.2.2.2.2.2.2.1
        rw [Nat.add_assoc, Nat.add_assoc] at this
        exact this
    · obtain ⟨q, rfl⟩ : ∃ q, i = 3 + q := ⟨i - 3, by omega⟩
      have g := off_w q (by omega)
      have l := hp q (by omega)
      constructor
      · rw [show 200 + 2 * (4 + 2 * (3 + q)) = 220 + 4 * q by omega, show 201 + 2 * (4 + 2 * (3 + q)) = 221 + 4 * q by omega, an (by omega), an (by omega), g.2.2.2.2.2.2.2.2.1, g.2.2.2.2.2.2.2.2.2.1]
        have := l.2.1
        rw [Nat.add_assoc, Nat.add_assoc] at this
        exact this
      · rw [show 200 + 2 * (5 + 2 * (3 + q)) = 222 + 4 * q by omega, show 201 + 2 * (5 + 2 * (3 + q)) = 223 + 4 * q by omega, an (by omega), an (by omega), g.2.2.2.2.2.2.2.2.2.2.1, g.2.2.2.2.2.2.2.2.2.2.2]
        have := l.2.2
        rw [Nat.add_assoc, Nat.add_assoc] at this
        exact this
  refine ⟨⟨fun t t1 t2 => ?_, fun j hj => ?_, fun _ => 0, ?_, ?_⟩, ?_, ⟨⟨R1, ?_, fun i hi => ?_⟩, ⟨R2, ?_, fun i hi => ?_⟩, ⟨R3, ?_, fun i hi => ?_⟩⟩, fun i hi => ⟨?_, GB2, Int.le_refl 0, show (0 : Int) ≤ 24 by omega⟩, fun i hi => ⟨⟨?_, hnum i hi⟩, GB2, fun _ => by show ¬ (LGN ≤ aB 1 ∨ LGN ≤ aB 0); decide⟩, fun i hi => ⟨?_, SV50⟩, ?_, ⟨0, 0, fun _ => 0, fun _ => 0, fun _ => 0, ⟨?_, ?_, ?_, ?_, ⟨T1, ?_, fun k hk => ?_⟩, ⟨T2, ?_, fun k hk => ?_⟩⟩, Or.inl rfl, by omega, by omega⟩⟩
  · by_cases q : t = 100
    · subst q
      rw [show adB x B 100 = x from rfl]
      exact if_pos rfl
    · rw [an q]
      unfold taB
      rw [if_neg (by omega), if_neg (by omega), show B + off t - B = off t by omega]
      exact offI_off (by omega) t2
  · unfold wo wr
    rw [an (by omega), an (by omega)]
    by_cases c1 : j < 4
    · rcases (show j = 0 ∨ j = 1 ∨ j = 2 ∨ j = 3 by omega) with q | q | q | q <;> subst q
      · exact d0
      · exact d1
      · exact d2
      · exact d3
    · by_cases c3 : j < 16
      · have l := hnum ((j - 4) / 2) (by omega)
        unfold NW wo wr at l
        rw [an (by omega), an (by omega), an (by omega), an (by omega)] at l
        rcases (show j % 2 = 0 ∨ j % 2 = 1 by omega) with q | q
        · have := l.1.ws
          rw [show 4 + 2 * ((j - 4) / 2) = j by omega] at this
          exact this
        · have := l.2.ws
          rw [show 5 + 2 * ((j - 4) / 2) = j by omega] at this
          exact this
      · by_cases c4 : j < 43
        · have g := off_k (j - 16) (by omega)
          have l := hT (j - 16) (by omega)
          rw [show 200 + 2 * j = 232 + 2 * (j - 16) by omega, show 201 + 2 * j = 233 + 2 * (j - 16) by omega, g.1, g.2.1]
          have := l.2.2.1
          rw [Nat.add_assoc, Nat.add_assoc] at this
          exact this
        · have g := off_k (j - 43) (by omega)
          have l := hT (j - 43) (by omega)
          rw [show 200 + 2 * j = 286 + 2 * (j - 43) by omega, show 201 + 2 * j = 287 + 2 * (j - 43) by omega, g.2.2.1, g.2.2.2]
          have := l.2.2.2
          rw [Nat.add_assoc, Nat.add_assoc] at this
          exact this
  · exact d4
  · intro q; exact ⟨show (-128 : Int) ≤ 0 by omega, show (0 : Int) ≤ 127 by omega⟩
  · exact ho
  · exact h1
  · rw [e _ _ (by omega) (off_w i hi).1, (hL i hi).1, Nat.add_assoc]
  · exact h2
  · rw [e _ _ (by omega) (off_w i hi).2.2.1, (hL i hi).2.1, Nat.add_assoc]
  · exact h3
  · rw [e _ _ (by omega) (off_w i hi).2.1, (hL i hi).2.2.1, Nat.add_assoc]
  · have := (hL i hi).2.2.2.1
    rw [e _ _ (by omega) (off_w i hi).1, ← Nat.add_assoc]
    exact this
  · unfold PO wo
    by_cases c : i < 3
    · have g := off_w i c
      have := (hL i c).2.2.2.2.1
      rw [e _ _ (by omega) g.2.2.1, show 200 + 2 * (4 + 2 * i) = 208 + 4 * i by omega, show 200 + 2 * (5 + 2 * i) = 210 + 4 * i by omega, e _ _ (by omega) g.2.2.2.2.1, e _ _ (by omega) g.2.2.2.2.2.2.1, ← Nat.add_assoc, ← Nat.add_assoc, ← Nat.add_assoc]
      exact this
    · obtain ⟨q, rfl⟩ : ∃ q, i = 3 + q := ⟨i - 3, by omega⟩
      have g := off_w q (by omega)
      have := (hp q (by omega)).1
      rw [show 140 + (3 + q) = 143 + q by omega, e _ _ (by omega) g.2.2.2.1, show 200 + 2 * (4 + 2 * (3 + q)) = 220 + 4 * q by omega, show 200 + 2 * (5 + 2 * (3 + q)) = 222 + 4 * q by omega, e _ _ (by omega) g.2.2.2.2.2.2.2.2.1, e _ _ (by omega) g.2.2.2.2.2.2.2.2.2.2.1, ← Nat.add_assoc, ← Nat.add_assoc, ← Nat.add_assoc]
      exact this
  · by_cases c : i < 3
    · have := (hL i c).2.2.2.2.2.2.2
      rw [e _ _ (by omega) (off_w i c).2.1, ← Nat.add_assoc]
      exact this
    · rcases (show i = 3 ∨ i = 4 by omega) with q | q <;> subst q
      · exact hr
      · exact hr2
  · exact hd
  · exact hf
  · exact f1
  · exact f2
  · exact f3
  · exact f4
  · unfold wo
    rw [show 200 + 2 * (16 + k) = 232 + 2 * k by omega, e _ _ (by omega) (off_k k hk).1, (hT k hk).1, Nat.add_assoc]
  · exact f5
  · unfold wo
    rw [show 200 + 2 * (43 + k) = 286 + 2 * k by omega, e _ _ (by omega) (off_k k hk).2.2.1, (hT k hk).2.1, Nat.add_assoc]
