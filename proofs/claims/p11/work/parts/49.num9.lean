/-! every pair with the norm 1 is a power of the least one -/
theorem blt_lt {a b : Nat} (h : Nat.blt a b = true) : a < b := Nat.le_of_ble_eq_true h
def sol (b u v : Int) : Prop := 0 < u ∧ 0 ≤ v ∧ u * u - b * (v * v) = 1
theorem sq_lt2 {x y : Int} (hy : 0 ≤ y) (h : x * x < y * y) : x < y := by
  rcases Int.lt_or_le x y with q | q
  · exact q
  · have := Int.mul_le_mul q q hy (Int.le_trans hy q)
    omega
theorem sol.step {b P Q u v : Int} (hb : 0 < b) (h : sol b u v) (g : sol b P Q) (hQ : 0 < Q) (hv : Q ≤ v) : sol b (u * P - b * (v * Q)) (v * P - u * Q) ∧ v * P - u * Q < v ∧ u = (u * P - b * (v * Q)) * P + b * ((v * P - u * Q) * Q) ∧ v = (u * P - b * (v * Q)) * Q + (v * P - u * Q) * P := by
  obtain ⟨h1, h2, h3⟩ := h
  obtain ⟨g1, g2, g3⟩ := g
  have pu : 0 < u * P := Int.mul_pos h1 g1
  have pv : 0 ≤ v * Q := Int.mul_nonneg h2 g2
  have pbv : 0 ≤ b * (v * Q) := Int.mul_nonneg (Int.le_of_lt hb) pv
  have puQ : 0 < u * Q := Int.mul_pos h1 hQ
  have pvP : 0 < v * P := Int.mul_pos (by omega) g1
  have vv : Q * Q ≤ v * v := Int.mul_le_mul hv hv g2 h2
  have uu : 1 ≤ u * u := Int.mul_pos h1 h1
  have PP : 1 ≤ P * P := Int.mul_pos g1 g1
  have QQ : 1 ≤ Q * Q := Int.mul_pos hQ hQ
  refine ⟨⟨?_, ?_, by grind⟩, ?_, by grind, by grind⟩
  · have e : (u * P - b * (v * Q)) * (u * P + b * (v * Q)) = u * u + P * P - 1 := by grind
    rcases Int.lt_or_le 0 (u * P - b * (v * Q)) with q | q
    · exact q
    · have := Int.mul_nonpos_of_nonpos_of_nonneg q (show 0 ≤ u * P + b * (v * Q) by omega)
      omega
  · have e : (v * P - u * Q) * (v * P + u * Q) = v * v - Q * Q := by grind
    rcases Int.lt_or_le (v * P - u * Q) 0 with q | q
    · have := Int.mul_neg_of_neg_of_pos q (show 0 < v * P + u * Q by omega)
      omega
    · exact q
  · have e1 : (u * Q) * (u * Q) = Q * Q + (v * v) * (P * P - 1) := by grind
    have e2 : (v * P - v) * (v * P - v) = (v * v) * (P * P - 1) - 2 * ((v * v) * (P - 1)) := by grind
    have p3 : 0 ≤ (v * v) * (P - 1) := Int.mul_nonneg (Int.mul_nonneg h2 h2) (by omega)
    have := sq_lt2 (x := v * P - v) (y := u * Q) (Int.le_of_lt puQ) (by omega)
    omega
theorem pw2_s {b P Q : Int} (j : Nat) : pw2 b P Q (j + 1) = ((pw2 b P Q j).1 * P + b * ((pw2 b P Q j).2 * Q), (pw2 b P Q j).1 * Q + (pw2 b P Q j).2 * P) := rfl
theorem sol_pow {b P Q : Int} (hb : 0 < b) (g : sol b P Q) (hQ : 0 < Q) (hmin : ∀ u v, sol b u v → 0 < v → Q ≤ v) : ∀ (n : Nat) (u v : Int), v < n → sol b u v → ∃ j, pw2 b P Q j = (u, v)
  | 0, u, v, hn, h => by have := h.2.1; omega
  | n + 1, u, v, hn, h => by
    rcases Int.lt_or_le 0 v with q | q
    · obtain ⟨a1, a2, a3, a4⟩ := sol.step hb h g hQ (hmin u v h q)
      obtain ⟨j, hj⟩ := sol_pow hb g hQ hmin n _ _ (by omega) a1
      refine ⟨j + 1, ?_⟩
      rw [pw2_s, hj]
      dsimp only
      rw [← a3, ← a4]
    · have hv : v = 0 := by have := h.2.1; omega
      subst hv
      obtain ⟨h1, -, h3⟩ := h
      refine ⟨0, ?_⟩
      have e : (u - 1) * (u + 1) = 0 := by grind
      rcases Int.mul_eq_zero.mp e with c | c
      · rw [show u = 1 by omega]; rfl
      · omega
theorem pw2_sol {b P Q : Int} (hb : 0 < b) (g : sol b P Q) : ∀ j, sol b (pw2 b P Q j).1 (pw2 b P Q j).2
  | 0 => ⟨show (0 : Int) < 1 by decide, show (0 : Int) ≤ 0 by decide, by show (1 : Int) * 1 - b * (0 * 0) = 1; omega⟩
  | j + 1 => by
    obtain ⟨h1, h2, h3⟩ := pw2_sol hb g j
    obtain ⟨g1, g2, g3⟩ := g
    rw [pw2_s]
    have := Int.mul_pos h1 g1
    have := Int.mul_nonneg (Int.le_of_lt hb) (Int.mul_nonneg h2 g2)
    have := Int.mul_nonneg (Int.le_of_lt h1) g2
    have := Int.mul_nonneg h2 (Int.le_of_lt g1)
    refine ⟨by dsimp only; omega, by dsimp only; omega, by dsimp only; grind⟩
theorem pw2_mono {b P Q : Int} (hb : 0 < b) (g : sol b P Q) (j : Nat) : (pw2 b P Q j).2 ≤ (pw2 b P Q (j + 1)).2 ∧ (pw2 b P Q j).1 * P ≤ (pw2 b P Q (j + 1)).1 := by
  obtain ⟨h1, h2, h3⟩ := pw2_sol hb g j
  obtain ⟨g1, g2, g3⟩ := g
  rw [pw2_s]
  have a1 := Int.mul_nonneg (Int.le_of_lt hb) (Int.mul_nonneg h2 g2)
  have a2 := Int.mul_nonneg (Int.le_of_lt h1) g2
  have a3 := Int.mul_le_mul_of_nonneg_left (show (1 : Int) ≤ P by omega) h2
  exact ⟨by dsimp only; omega, by dsimp only; omega⟩
theorem pw2_ge {b P Q : Int} (hb : 0 < b) (g : sol b P Q) : ∀ k, (pw2 b P Q 2).2 ≤ (pw2 b P Q (k + 2)).2
  | 0 => Int.le_refl _
  | k + 1 => Int.le_trans (pw2_ge hb g k) (pw2_mono hb g (k + 2)).1
theorem least_nat {p : Nat → Prop} (h : ∃ n, p n) : ∃ n, p n ∧ ∀ m, p m → n ≤ m := by
  obtain ⟨n, hn⟩ := h
  have key : ∀ n, (∃ m, m ≤ n ∧ p m) → ∃ n, p n ∧ ∀ m, p m → n ≤ m := by
    intro n
    induction n with
    | zero =>
      rintro ⟨m, h1, h2⟩
      exact ⟨m, h2, fun q _ => by omega⟩
    | succ n ih =>
      rintro ⟨m, h1, h2⟩
      by_cases c : ∃ m, m ≤ n ∧ p m
      · exact ih c
      · refine ⟨m, h2, fun q hq => ?_⟩
        rcases Nat.lt_or_ge n q with d | d
        · omega
        · exact absurd ⟨q, d, hq⟩ c
  exact key n ⟨n, Nat.le_refl n, hn⟩
/-- no lesser one: checked as far as a power of it could be the one that is told -/
def nsq (b P Q r v : Nat) : Bool := Nat.blt Q (2 * r * (v * v)) || v == 0 || (Nat.blt ((v * P / Q) * (v * P / Q)) (1 + b * (v * v)) && Nat.blt (1 + b * (v * v)) ((v * P / Q + 1) * (v * P / Q + 1)))
def allN (p : Nat → Bool) : Nat → Bool
  | 0 => true
  | n + 1 => p n && allN p n
theorem allN_at {p : Nat → Bool} : ∀ {n : Nat}, allN p n = true → ∀ k, k < n → p k = true
  | 0, _, k, hk => absurd hk (Nat.not_lt_zero k)
  | n + 1, h, k, hk => by
    simp only [allN, Bool.and_eq_true] at h
    rcases Nat.lt_or_ge k n with q | q
    · exact allN_at h.2 k q
    · rw [show k = n by omega]; exact h.1
def vMx (b : Nat) : Nat := if b = 61 then 4021 else 600
def minC (b r : Int) : Bool := allN (nsq b.toNat (leaP b r).toNat (leaQ b r).toNat r.toNat) (vMx b.toNat) && Nat.blt (leaQ b r).toNat (2 * r.toNat * (vMx b.toNat * vMx b.toNat))
theorem min_chk : ((List.range 10).all fun r => (List.range (2 * r)).all fun t => minC ((r * r + 1 + t : Nat) : Int) (r : Int)) = true := by decide +kernel
theorem lea_min {b r : Int} (hb : GB b) (hr : RT b r) {u v : Int} (h : sol b u v) (hv : 0 < v) : leaQ b r ≤ v := by
  obtain ⟨l1, l2, l3, l4, l5⟩ := lea_ok hb hr
  have hb1 := hb.1
  have hr1 := (RT_le hb hr).1
  have g : sol b (leaP b r) (leaQ b r) := ⟨by omega, by omega, l5⟩
  obtain ⟨n, ⟨hn0, u0, hu0⟩, hmin⟩ := least_nat (p := fun n => 0 < n ∧ ∃ u : Int, sol b u (n : Int)) ⟨(leaQ b r).toNat, by omega, leaP b r, by rw [Int.toNat_of_nonneg (by omega)]; exact g⟩
  have hm : ∀ u v, sol b u v → 0 < v → (n : Int) ≤ v := fun u v h hv => by
    have := hmin v.toNat ⟨by omega, u, by rw [Int.toNat_of_nonneg (by omega)]; exact h⟩
    omega
  obtain ⟨k, hk⟩ := sol_pow (by omega) hu0 (by omega) hm ((leaQ b r).toNat + 1) _ _ (by omega) g
  have hvn := hm u v h hv
  match k, hk with
  | 0, hk =>
    have := congrArg Prod.snd hk
    dsimp only [pw2] at this
    omega
  | 1, hk =>
    have e := congrArg Prod.snd hk
    have e2 : (pw2 b u0 (n : Int) 1).2 = n := by show (1 : Int) * n + 0 * u0 = n; omega
    rw [e2] at e
    dsimp only at e
    omega
  | k + 2, hk =>
    exfalso
    have e := congrArg Prod.snd hk
    have e1 := pw2_ge (by omega) hu0 k
    have e2 : (pw2 b u0 (n : Int) 2).2 = 2 * (u0 * n) := by
      show ((1 : Int) * u0 + b * (0 * n)) * n + (1 * n + 0 * u0) * u0 = _
      grind
    rw [e, e2] at e1
    dsimp only at e1
    obtain ⟨c1, c2, c3⟩ := hu0
    have hrr := hr.2.1
    have nn : (0 : Int) ≤ (n : Int) * n := Int.mul_nonneg (by omega) (by omega)
    have hrn : r * n < u0 := by
      refine sq_lt2 (by omega) ?_
      have : (r * n) * (r * n) = (r * r) * ((n : Int) * n) := by grind
      have := Int.mul_le_mul_of_nonneg_right hrr nn
      omega
    have hrnn : r * ((n : Int) * n) ≤ u0 * n := by
      have := Int.mul_le_mul_of_nonneg_right (show r * n ≤ u0 by omega) (show (0 : Int) ≤ n by omega)
      rw [Int.mul_assoc] at this
      exact this
    have hc := all_bases (P := minC) min_chk hb hr
    simp only [minC, Bool.and_eq_true] at hc
    obtain ⟨hc1, hc2⟩ := hc
    obtain ⟨B, hB⟩ := Int.eq_ofNat_of_zero_le (show 0 ≤ b by omega)
    obtain ⟨R, hR⟩ := Int.eq_ofNat_of_zero_le (show 0 ≤ r by omega)
    obtain ⟨P, hP⟩ := Int.eq_ofNat_of_zero_le (show 0 ≤ leaP b r by omega)
    obtain ⟨Q, hQ⟩ := Int.eq_ofNat_of_zero_le (show 0 ≤ leaQ b r by omega)
    rw [hP, hQ] at hc1
    rw [hQ] at hc2
    rw [hB, hR] at hc1 hc2
    simp only [Int.toNat_natCast] at hc1 hc2
    have hQ2 : 2 * R * (n * n) ≤ Q := by
      have : 2 * (r * ((n : Int) * n)) ≤ leaQ b r := by omega
      rw [hQ, hR] at this
      have e9 : (2 : Int) * ((R : Int) * ((n : Int) * (n : Int))) = ((2 * R * (n * n) : Nat) : Int) := by
        simp only [Int.natCast_mul]
        rw [Int.mul_assoc]; rfl
      omega
    have hnV : n < vMx B := by
      rcases Nat.lt_or_ge n (vMx B) with q | q
      · exact q
      · have h8 : Q < 2 * R * (vMx B * vMx B) := blt_lt hc2
        have h9 := Nat.mul_le_mul q q
        have h10 := Nat.mul_le_mul_left (2 * R) h9
        omega
    have hz := allN_at hc1 n hnV
    simp only [nsq, Bool.or_eq_true, Bool.and_eq_true, beq_iff_eq] at hz
    have f1 : ¬ Nat.blt Q (2 * R * (n * n)) = true := by
      intro q
      have : Q < 2 * R * (n * n) := blt_lt q
      omega
    rcases hz with (q | q) | ⟨q1, q2⟩
    · exact f1 q
    · omega
    · have q1 : (n * P / Q) * (n * P / Q) < 1 + B * (n * n) := blt_lt q1
      have q2 : 1 + B * (n * n) < (n * P / Q + 1) * (n * P / Q + 1) := blt_lt q2
      obtain ⟨U, hU⟩ := Int.eq_ofNat_of_zero_le (show 0 ≤ u0 by omega)
      have hN : U * U = 1 + B * (n * n) := by
        rw [hU, hB] at c3
        have e5 : (U : Int) * (U : Int) = ((U * U : Nat) : Int) := by simp
        have e6 : (B : Int) * ((n : Int) * (n : Int)) = ((B * (n * n) : Nat) : Int) := by simp
        omega
      rw [← hN] at q1 q2
      generalize n * P / Q = t at q1 q2
      rcases Nat.lt_or_ge t U with d | d
      · have := Nat.mul_le_mul (show t + 1 ≤ U by omega) (show t + 1 ≤ U by omega)
        omega
      · have := Nat.mul_le_mul d d
        omega
theorem aB_sq (x : Int) : aB x * aB x = x * x := by
  unfold aB
  split
  · rw [Int.neg_mul_neg]
  · rfl
theorem rank_ex {b r x y : Int} (hb : GB b) (hr : RT b r) (h : x * x - b * (y * y) = 1) : ∃ j, pw2 b (leaP b r) (leaQ b r) j = (aB x, aB y) := by
  obtain ⟨l1, l2, l3, l4, l5⟩ := lea_ok hb hr
  have hb1 := hb.1
  have g : sol b (leaP b r) (leaQ b r) := ⟨by omega, by omega, l5⟩
  have ax : 0 ≤ aB x := by unfold aB; split <;> omega
  have ay : 0 ≤ aB y := by unfold aB; split <;> omega
  have hs : aB x * aB x - b * (aB y * aB y) = 1 := by rw [aB_sq, aB_sq]; exact h
  have hx : aB x ≠ 0 := by
    intro q
    rw [q] at hs
    have := Int.mul_nonneg (show 0 ≤ b by omega) (Int.mul_nonneg ay ay)
    omega
  exact sol_pow (by omega) g l3 (fun u v h hv => lea_min hb hr h hv) ((aB y).toNat + 1) _ _ (by omega) ⟨by omega, ay, hs⟩
theorem pw2_big {b P Q : Int} (hb : 0 < b) (g : sol b P Q) (hP : 1 < P) : ∀ j : Nat, (2 : Int) ^ j ≤ (pw2 b P Q j).1
  | 0 => by show (2 : Int) ^ 0 ≤ 1; decide
  | j + 1 => by
    have h1 := pw2_big hb g hP j
    have h2 := (pw2_mono hb g j).2
    have h3 := (pw2_sol hb g j).1
    have h4 := Int.mul_le_mul_of_nonneg_left (show (2 : Int) ≤ P by omega) (Int.le_of_lt h3)
    rw [Int.pow_succ]
    omega
