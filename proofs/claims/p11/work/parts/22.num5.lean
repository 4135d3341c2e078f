/-! the walk along a root: M, D, A of a step; TOP and BOTTOM -/
def RT (b r : Int) : Prop := 0 ≤ r ∧ r * r ≤ b ∧ b < (r + 1) * (r + 1)
def cfN (b r : Int) (p : Int × Int × Int) : Int × Int × Int :=
  (p.2.1 * p.2.2 - p.1, (b - (p.2.1 * p.2.2 - p.1) * (p.2.1 * p.2.2 - p.1)) / p.2.1, (r + (p.2.1 * p.2.2 - p.1)) / ((b - (p.2.1 * p.2.2 - p.1) * (p.2.1 * p.2.2 - p.1)) / p.2.1))
def cf (b r : Int) : Nat → Int × Int × Int
  | 0 => (0, 1, r)
  | k + 1 => cfN b r (cf b r k)
def cfG (b r : Int) (p : Int × Int × Int) : Bool := decide (0 ≤ p.1) && decide (p.1 ≤ r) && decide (1 ≤ p.2.1) && decide (p.2.1 ≤ 2 * r) && decide (1 ≤ p.2.2) && decide (p.2.2 ≤ 2 * r) && decide ((b - p.1 * p.1) % p.2.1 = 0)
def cfAll (b r : Int) : Nat → Int × Int × Int → Bool
  | 0, p => cfG b r p
  | k + 1, p => cfG b r p && cfAll b r k (cfN b r p)
theorem cfAll_cf {b r : Int} : ∀ {n k j : Nat}, cfAll b r n (cf b r j) = true → k ≤ n → cfG b r (cf b r (j + k)) = true
  | 0, k, j, h, hk => by
    rw [show k = 0 by omega]; exact h
  | n + 1, k, j, h, hk => by
    simp only [cfAll, Bool.and_eq_true] at h
    rcases Nat.eq_zero_or_pos k with q | q
    · rw [q]; exact h.1
    · have := cfAll_cf (n := n) (k := k - 1) (j := j + 1) h.2 (by omega)
      rw [show j + 1 + (k - 1) = j + k by omega] at this
      exact this
theorem all_bases {P : Int → Int → Bool} (h : ((List.range 10).all fun r => (List.range (2 * r)).all fun t => P ((r * r + 1 + t : Nat) : Int) (r : Int)) = true) {b r : Int} (hb : GB b) (hr : RT b r) : P b r = true := by
  obtain ⟨h0, h1, h2⟩ := hr
  have hne := hb.2.2 r
  have h9 : r ≤ 9 := by
    rcases Int.lt_or_le 9 r with q | q
    · have : 10 * 10 ≤ r * r := Int.mul_le_mul (by omega) (by omega) (by omega) (by omega)
      have := hb.2.1
      omega
    · exact q
  have e : (r + 1) * (r + 1) = r * r + 2 * r + 1 := by grind
  obtain ⟨R, rfl⟩ := Int.eq_ofNat_of_zero_le h0
  have hz : ((R * R : Nat) : Int) = (R : Int) * (R : Int) := by simp
  obtain ⟨t, ht⟩ : ∃ t : Nat, b = ((R * R + 1 + t : Nat) : Int) := ⟨(b - R * R - 1).toNat, by omega⟩
  have h3 := List.all_eq_true.mp h R (List.mem_range.mpr (by omega))
  have h4 := List.all_eq_true.mp h3 t (List.mem_range.mpr (by omega))
  rw [ht]; exact h4
theorem cf_chk : ((List.range 10).all fun r => (List.range (2 * r)).all fun t => cfAll ((r * r + 1 + t : Nat) : Int) (r : Int) 48 (0, 1, (r : Int))) = true := by decide +kernel
theorem cf_good {b r : Int} (hb : GB b) (hr : RT b r) {k : Nat} (hk : k ≤ 48) : 0 ≤ (cf b r k).1 ∧ (cf b r k).1 ≤ r ∧ 1 ≤ (cf b r k).2.1 ∧ (cf b r k).2.1 ≤ 2 * r ∧ 1 ≤ (cf b r k).2.2 ∧ (cf b r k).2.2 ≤ 2 * r ∧ (b - (cf b r k).1 * (cf b r k).1) % (cf b r k).2.1 = 0 := by
  have h := all_bases (P := fun b r => cfAll b r 48 (0, 1, r)) cf_chk hb hr
  have := cfAll_cf (n := 48) (k := k) (j := 0) h hk
  rw [Nat.zero_add] at this
  simp only [cfG, Bool.and_eq_true, decide_eq_true_eq] at this
  omega
theorem RT_le {b r : Int} (hb : GB b) (hr : RT b r) : 1 ≤ r ∧ r ≤ 9 := by
  obtain ⟨h0, h1, h2⟩ := hr
  constructor
  · rcases Int.lt_or_le 0 r with q | q
    · omega
    · have : r = 0 := by omega
      subst this
      have := hb.1
      omega
  · rcases Int.lt_or_le 9 r with q | q
    · have : 10 * 10 ≤ r * r := Int.mul_le_mul (by omega) (by omega) (by omega) (by omega)
      have := hb.2.1
      omega
    · exact q
theorem RT_uniq {b r s : Int} (h : RT b r) (g : RT b s) : r = s := sq_uniq h.1 h.2.1 h.2.2 g.1 g.2.1 g.2.2
/-- the step where D is 1 again -/
def perAt (b r : Int) : Nat → Int × Int × Int → Nat → Bool
  | 0, _, _ => false
  | n + 1, p, _ => decide ((cfN b r p).2.1 = 1) || perAt b r n (cfN b r p) 0
theorem per_ex {b r : Int} : ∀ {n j : Nat}, perAt b r n (cf b r j) 0 = true → ∃ k, 1 ≤ k ∧ k ≤ n ∧ (cf b r (j + k)).2.1 = 1
  | 0, j, h => by cases h
  | n + 1, j, h => by
    simp only [perAt, Bool.or_eq_true, decide_eq_true_eq] at h
    rcases h with h | h
    · exact ⟨1, by omega, by omega, h⟩
    · obtain ⟨k, h1, h2, h3⟩ := per_ex (n := n) (j := j + 1) h
      exact ⟨k + 1, by omega, by omega, by rw [show j + (k + 1) = j + 1 + k by omega]; exact h3⟩
theorem per_chk : ((List.range 10).all fun r => (List.range (2 * r)).all fun t => perAt ((r * r + 1 + t : Nat) : Int) (r : Int) 16 (0, 1, (r : Int)) 0) = true := by decide +kernel
theorem per_some {b r : Int} (hb : GB b) (hr : RT b r) : ∃ k, 1 ≤ k ∧ k ≤ 16 ∧ (cf b r k).2.1 = 1 := by
  obtain ⟨k, h1, h2, h3⟩ := per_ex (n := 16) (j := 0) (all_bases (P := fun b r => perAt b r 16 (0, 1, r) 0) per_chk hb hr)
  exact ⟨k, h1, h2, by rw [Nat.zero_add] at h3; exact h3⟩
/-- TOP (x0 = 1, x1 = r) and BOTTOM (x0 = 0, x1 = 1) of a step, and those of the step ahead -/
def pq (b r x0 x1 : Int) : Nat → Int × Int
  | 0 => (x1, x0)
  | k + 1 => ((cf b r (k + 1)).2.2 * (pq b r x0 x1 k).1 + (pq b r x0 x1 k).2, (pq b r x0 x1 k).1)
theorem pq_r {b r x0 x1 : Int} (hb : GB b) (hr : RT b r) (h0 : 0 ≤ x0 ∧ x0 ≤ 1) (h1 : 0 ≤ x1 ∧ x1 ≤ 9) : ∀ {k : Nat}, k ≤ 48 → 0 ≤ (pq b r x0 x1 k).1 ∧ (pq b r x0 x1 k).1 ≤ 19 ^ (k + 1) ∧ 0 ≤ (pq b r x0 x1 k).2 ∧ (pq b r x0 x1 k).2 ≤ 19 ^ k
  | 0, _ => ⟨h1.1, by show x1 ≤ 19; omega, h0.1, by show x0 ≤ 1; omega⟩
  | k + 1, hk => by
    obtain ⟨a1, a2, a3, a4⟩ := pq_r (x0 := x0) (x1 := x1) hb hr h0 h1 (k := k) (by omega)
    obtain ⟨-, -, -, -, c1, c2, -⟩ := cf_good hb hr (k := k + 1) hk
    have := RT_le hb hr
    have e1 : 0 ≤ (cf b r (k + 1)).2.2 * (pq b r x0 x1 k).1 := Int.mul_nonneg (by omega) a1
    have e2 : (cf b r (k + 1)).2.2 * (pq b r x0 x1 k).1 ≤ 18 * 19 ^ (k + 1) := Int.mul_le_mul (by omega) a2 a1 (by omega)
    have e3 : (19 : Int) ^ (k + 1 + 1) = 19 ^ (k + 1) * 19 := Int.pow_succ ..
    have e4 : (19 : Int) ^ (k + 1) = 19 ^ k * 19 := Int.pow_succ ..
    have e5 : (0 : Int) < 19 ^ k := Int.pow_pos (by decide)
    refine ⟨?_, ?_, a1, a2⟩
    · show 0 ≤ (cf b r (k + 1)).2.2 * (pq b r x0 x1 k).1 + (pq b r x0 x1 k).2
      omega
    · show (cf b r (k + 1)).2.2 * (pq b r x0 x1 k).1 + (pq b r x0 x1 k).2 ≤ _
      omega
theorem mad_step {B : Int} {h f g : Nat → Int} {t : Nat} {a c s : Int} (e : nv B h t + c * B ^ t = a * nv B g t + nv B f t) (hs : s = c + (a * g t + f t)) : nv B (iup h t (s % B)) (t + 1) + s / B * B ^ (t + 1) = a * nv B g (t + 1) + nv B f (t + 1) := by
  rw [nv_up_succ, nv_succ, nv_succ, Int.pow_succ]
  have e2 : s = B * (s / B) + s % B := (Int.mul_ediv_add_emod s B).symm
  generalize s / B = q at e2 ⊢
  generalize s % B = r at e2 ⊢
  grind
theorem odd_chk : ((List.range 10).all fun r => (List.range (2 * r)).all fun t => perAt ((r * r + 1 + t : Nat) : Int) (r : Int) 12 (0, 1, (r : Int)) 0 || (decide ((cf ((r * r + 1 + t : Nat) : Int) (r : Int) 13).2.1 ≠ 1) && decide ((cf ((r * r + 1 + t : Nat) : Int) (r : Int) 15).2.1 ≠ 1))) = true := by decide +kernel
def isPer (b r : Int) (p : Nat) : Prop := 1 ≤ p ∧ p ≤ 16 ∧ (cf b r p).2.1 = 1 ∧ ∀ k, 1 ≤ k → k < p → (cf b r k).2.1 ≠ 1
theorem per_odd {b r : Int} (hb : GB b) (hr : RT b r) {p : Nat} (h : isPer b r p) (ho : p % 2 = 1) : p ≤ 11 := by
  obtain ⟨h1, h2, h3, h4⟩ := h
  rcases Nat.lt_or_ge 11 p with q | q
  · have c := all_bases (P := fun b r => perAt b r 12 (0, 1, r) 0 || (decide ((cf b r 13).2.1 ≠ 1) && decide ((cf b r 15).2.1 ≠ 1))) odd_chk hb hr
    simp only [Bool.or_eq_true, Bool.and_eq_true, decide_eq_true_eq] at c
    rcases c with c | ⟨c1, c2⟩
    · obtain ⟨k, k1, k2, k3⟩ := per_ex (n := 12) (j := 0) c
      rw [Nat.zero_add] at k3
      exact absurd k3 (h4 k k1 (by omega))
    · have : p = 13 ∨ p = 15 := by omega
      rcases this with rfl | rfl
      · exact absurd h3 c1
      · exact absurd h3 c2
  · exact q
theorem per_uniq {b r : Int} {p q : Nat} (h : isPer b r p) (g : isPer b r q) : p = q := by
  rcases Nat.lt_trichotomy p q with a | a | a
  · exact absurd h.2.2.1 (g.2.2.2 p h.1 a)
  · exact a
  · exact absurd g.2.2.1 (h.2.2.2 q g.1 a)
