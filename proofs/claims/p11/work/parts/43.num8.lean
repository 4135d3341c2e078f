/-! what holds of a walk at each step: CROSS, NORM, signs; checked for every base -/
def wkG (b r : Int) (k : Nat) (c : Int × Int × Int) (p q : Int × Int) : Bool :=
  decide (p.1 * q.2 - p.2 * q.1 = if k % 2 = 1 then 1 else -1) && decide (p.1 * p.1 - b * (q.1 * q.1) = if k % 2 = 1 then (cfN b r c).2.1 else -(cfN b r c).2.1) && decide (0 < p.1) && decide (0 < q.1) && decide (p.1 ≤ 10 * q.1)
def wkAll (b r : Int) : Nat → Nat → Int × Int × Int → Int × Int → Int × Int → Bool
  | 0, k, c, p, q => wkG b r k c p q
  | n + 1, k, c, p, q => wkG b r k c p q && wkAll b r n (k + 1) (cfN b r c) ((cfN b r c).2.2 * p.1 + p.2, p.1) ((cfN b r c).2.2 * q.1 + q.2, q.1)
theorem wkAll_at {b r : Int} : ∀ {n k j : Nat}, wkAll b r n j (cf b r j) (pq b r 1 r j) (pq b r 0 1 j) = true → k ≤ n → wkG b r (j + k) (cf b r (j + k)) (pq b r 1 r (j + k)) (pq b r 0 1 (j + k)) = true
  | 0, k, j, h, hk => by
    rw [show k = 0 by omega]; exact h
  | n + 1, k, j, h, hk => by
    simp only [wkAll, Bool.and_eq_true] at h
    rcases Nat.eq_zero_or_pos k with q | q
    · rw [q]; exact h.1
    · have := wkAll_at (n := n) (k := k - 1) (j := j + 1) h.2 (by omega)
      rw [show j + 1 + (k - 1) = j + k by omega] at this
      exact this
theorem wk_chk : ((List.range 10).all fun r => (List.range (2 * r)).all fun t => wkAll ((r * r + 1 + t : Nat) : Int) (r : Int) 25 0 (0, 1, (r : Int)) ((r : Int), 1) (1, 0)) = true := by decide +kernel
theorem wk_good {b r : Int} (hb : GB b) (hr : RT b r) {k : Nat} (hk : k ≤ 25) : (pq b r 1 r k).1 * (pq b r 0 1 k).2 - (pq b r 1 r k).2 * (pq b r 0 1 k).1 = (if k % 2 = 1 then 1 else -1) ∧ (pq b r 1 r k).1 * (pq b r 1 r k).1 - b * ((pq b r 0 1 k).1 * (pq b r 0 1 k).1) = (if k % 2 = 1 then (cf b r (k + 1)).2.1 else -(cf b r (k + 1)).2.1) ∧ 0 < (pq b r 1 r k).1 ∧ 0 < (pq b r 0 1 k).1 ∧ (pq b r 1 r k).1 ≤ 10 * (pq b r 0 1 k).1 := by
  have h := all_bases (P := fun b r => wkAll b r 25 0 (0, 1, r) (r, 1) (1, 0)) wk_chk hb hr
  have := wkAll_at (n := 25) (k := k) (j := 0) h hk
  rw [Nat.zero_add] at this
  simp only [wkG, Bool.and_eq_true, decide_eq_true_eq] at this
  obtain ⟨⟨⟨⟨h1, h2⟩, h3⟩, h4⟩, h5⟩ := this
  exact ⟨h1, h2, h3, h4, h5⟩
/-- what test() tells -/
def tstV (b r : Int) (k : Nat) (what : Int) : Int := if what = 0 then 1 else if what = 1 then (if k % 2 = 1 then 1 else -1) else (if k % 2 = 1 then (cf b r (k + 1)).2.1 else -(cf b r (k + 1)).2.1)
theorem wk_cop {b r : Int} (hb : GB b) (hr : RT b r) {k : Nat} (hk : k ≤ 25) {d : Int} (h0 : 0 < d) (h1 : d ∣ (pq b r 1 r k).1) (h2 : d ∣ (pq b r 0 1 k).1) : d = 1 := by
  have h := (wk_good hb hr hk).1
  have a1 : d ∣ (pq b r 1 r k).1 * (pq b r 0 1 k).2 := Int.dvd_mul_of_dvd_left h1
  have a2 : d ∣ (pq b r 1 r k).2 * (pq b r 0 1 k).1 := Int.dvd_mul_of_dvd_right h2
  have a3 := Int.dvd_sub a1 a2
  rw [h] at a3
  have a4 : d ∣ 1 := by
    split at a3
    · exact a3
    · exact Int.dvd_neg.mp a3
  exact Int.eq_one_of_dvd_one (by omega) a4
theorem tst_abs {b r : Int} (hb : GB b) (hr : RT b r) {k : Nat} (hk : k ≤ 25) : (if 0 ≤ tstV b r k 2 then tstV b r k 2 else 0 - tstV b r k 2) = (cf b r (k + 1)).2.1 := by
  have := cf_good hb hr (k := k + 1) (by omega)
  have e : tstV b r k 2 = (if k % 2 = 1 then (cf b r (k + 1)).2.1 else -(cf b r (k + 1)).2.1) := by
    unfold tstV
    rw [if_neg (show ¬ (2 : Int) = 0 by decide), if_neg (show ¬ (2 : Int) = 1 by decide)]
  rw [e]
  by_cases c : k % 2 = 1
  · rw [if_pos c, if_pos (by omega)]
  · rw [if_neg c]
    split <;> omega
theorem tst_r {b r : Int} (hb : GB b) (hr : RT b r) {k : Nat} (hk : k ≤ 25) (what : Int) : -18 ≤ tstV b r k what ∧ tstV b r k what ≤ 18 := by
  have := cf_good hb hr (k := k + 1) (by omega)
  have := RT_le hb hr
  unfold tstV
  split
  · omega
  · split
    · split <;> omega
    · split <;> omega
def nearO (b r t : Int) (k : Nat) : Int := t * (cf b r (k + 1)).2.1 * (pq b r 0 1 (k + 1)).1 - (pq b r 1 r k).1
def nearP (b r t : Int) (k : Nat) : Prop := nearO b r t k < 0 ∨ nearO b r t k * nearO b r t k < b * ((pq b r 0 1 k).1 * (pq b r 0 1 k).1)
/-- what is left at each place of a division -/
def lfD (P Q : Int) : Nat → Int
  | 0 => P
  | k + 1 => 10 * (lfD P Q k % Q)
theorem lfD_r {P Q : Int} (hP : 0 ≤ P) (hPQ : P ≤ 10 * Q) (hQ : 0 < Q) : ∀ k : Nat, 0 ≤ lfD P Q k ∧ lfD P Q k ≤ 10 * Q
  | 0 => ⟨hP, hPQ⟩
  | k + 1 => by
    have h1 := Int.emod_nonneg (lfD P Q k) (b := Q) (by omega)
    have h2 := Int.emod_lt_of_pos (lfD P Q k) hQ
    show 0 ≤ 10 * (lfD P Q k % Q) ∧ 10 * (lfD P Q k % Q) ≤ 10 * Q
    omega
theorem pq_cap {b r x0 x1 : Int} (hb : GB b) (hr : RT b r) (h0 : 0 ≤ x0 ∧ x0 ≤ 1) (h1 : 0 ≤ x1 ∧ x1 ≤ 9) {k : Nat} (hk : k ≤ 25) : 0 ≤ (pq b r x0 x1 k).1 ∧ (pq b r x0 x1 k).1 ≤ 1768453418076865701195582595329481 := by
  obtain ⟨h1, h2, -⟩ := pq_r hb hr h0 h1 (k := k) (by omega)
  refine ⟨h1, Int.le_trans h2 ?_⟩
  have e : (19 : Int) ^ 26 = 19 ^ (k + 1) * 19 ^ (25 - k) := by rw [← Int.pow_add]; congr 1; omega
  have p1 : (0 : Int) < 19 ^ (k + 1) := Int.pow_pos (by decide)
  have p2 : (1 : Int) ≤ 19 ^ (25 - k) := Int.pow_pos (n := 19) (by decide)
  have := Int.mul_le_mul_of_nonneg_left p2 (Int.le_of_lt p1)
  rw [← e] at this
  have e2 : (19 : Int) ^ 26 = 1768453418076865701195582595329481 := by decide +kernel
  omega
