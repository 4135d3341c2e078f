/-! the least one with the norm 1 -/
def perF (b r : Int) : Nat → Nat → Nat
  | 0, k => k
  | n + 1, k => if (cf b r k).2.1 = 1 then k else perF b r n (k + 1)
theorem perF_is {b r : Int} {p : Nat} (h : isPer b r p) : ∀ {n k : Nat}, 1 ≤ k → k ≤ p → p < k + n → perF b r n k = p
  | 0, k, _, h2, h3 => by omega
  | n + 1, k, h1, h2, h3 => by
    unfold perF
    by_cases q : (cf b r k).2.1 = 1
    · rw [if_pos q]
      rcases Nat.lt_or_ge k p with a | a
      · exact absurd q (h.2.2.2 k h1 a)
      · omega
    · rw [if_neg q]
      have : k ≠ p := fun e => q (by rw [e]; exact h.2.2.1)
      exact perF_is h (by omega) (by omega) (by omega)
theorem perF_eq {b r : Int} {p : Nat} (h : isPer b r p) : perF b r 16 1 = p := perF_is h (Nat.le_refl 1) h.1 (by have := h.2.1; omega)
def leaK (p : Nat) : Nat := (if p % 2 = 0 then p else 2 * p) - 1
/-- LEFT and RIGHT of the least one -/
def leaP (b r : Int) : Int := (pq b r 1 r (leaK (perF b r 16 1))).1
def leaQ (b r : Int) : Int := (pq b r 0 1 (leaK (perF b r 16 1))).1
def leaC (b r : Int) : Bool := decide (1 < leaP b r) && decide (leaP b r < 2147483648) && decide (0 < leaQ b r) && decide (leaQ b r < 2147483648) && decide (leaP b r * leaP b r - b * (leaQ b r * leaQ b r) = 1)
theorem lea_chk : ((List.range 10).all fun r => (List.range (2 * r)).all fun t => leaC ((r * r + 1 + t : Nat) : Int) (r : Int)) = true := by decide +kernel
theorem lea_ok {b r : Int} (hb : GB b) (hr : RT b r) : 1 < leaP b r ∧ leaP b r < 2147483648 ∧ 0 < leaQ b r ∧ leaQ b r < 2147483648 ∧ leaP b r * leaP b r - b * (leaQ b r * leaQ b r) = 1 := by
  have := all_bases (P := leaC) lea_chk hb hr
  simp only [leaC, Bool.and_eq_true, decide_eq_true_eq] at this
  omega
