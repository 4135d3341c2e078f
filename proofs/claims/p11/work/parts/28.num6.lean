/-! primes that are split -/
def pmN (a p : Nat) : Nat → Nat
  | 0 => 1
  | k + 1 => pmN a p k * (a % p) % p
def prB (n : Nat) : Bool := (List.range 32).all fun k => decide (k < 2) || decide (n < k * k) || decide (n % k ≠ 0)
def SPb (p : Nat) : Bool := decide (5 ≤ p) && decide (p ≤ 997) && decide (p % 4 = 1) && prB p
def witF (p : Nat) : Nat → Nat → Nat
  | 0, w => w
  | n + 1, w => if pmN w p ((p - 1) / 2) = p - 1 then w else witF p n (w + 1)
def wit (p : Nat) : Nat := witF p 40 2
def ima (p : Nat) : Nat := pmN (wit p) p ((p - 1) / 4)
abbrev SQ : Type := Int × Int × Int × Int
def spN (q : SQ) : SQ := (q.2.1, q.1 - q.1 / q.2.1 * q.2.1, q.2.2.2, q.2.2.1 - q.1 / q.2.1 * q.2.2.2)
def spI (p : Nat) : SQ := ((p : Int), (ima p : Int), 0, 1)
def spS (p : Nat) : Nat → SQ
  | 0 => spI p
  | k + 1 => spN (spS p k)
def aB (x : Int) : Int := if x < 0 then -x else x
def spG (p : Nat) (q : SQ) : Bool := decide (0 ≤ q.2.1) && decide (q.2.1 < q.1) && decide (q.1 ≤ p) && decide (aB q.2.2.1 ≤ p) && decide (aB q.2.2.2 ≤ p) && decide (q.2.1 = 0 → q.1 = 1) && decide ((q.1 * q.1 + q.2.2.1 * q.2.2.1) % p = 0) && decide (q.1 * aB q.2.2.2 + q.2.1 * aB q.2.2.1 = p)
def spC (p : Nat) : Nat → SQ → Bool
  | 0, _ => false
  | n + 1, q => spG p q && (decide (q.2.1 = 0) || spC p n (spN q))
def spAll (p : Nat) : Bool := decide (wit p ≤ 40) && decide (pmN (wit p) p ((p - 1) / 2) = p - 1) && decide ((ima p * ima p + 1) % p = 0) && spC p 20 (spI p)
theorem sp_chk : ((List.range 998).all fun p => !(SPb p) || spAll p) = true := by decide +kernel
theorem sp_all {p : Nat} (h : SPb p = true) : spAll p = true := by
  have hp : p ≤ 997 := by
    simp only [SPb, Bool.and_eq_true, decide_eq_true_eq] at h
    exact h.1.1.2
  have := List.all_eq_true.mp sp_chk p (List.mem_range.mpr (by omega))
  rw [h] at this
  simpa using this
theorem spC_good {p : Nat} : ∀ {n k j : Nat}, spC p n (spS p j) = true → (∀ i, i < k → (spS p (j + i)).2.1 ≠ 0) → spG p (spS p (j + k)) = true ∧ k < n
  | 0, k, j, h, _ => by cases h
  | n + 1, k, j, h, hk => by
    simp only [spC, Bool.and_eq_true, Bool.or_eq_true, decide_eq_true_eq] at h
    rcases Nat.eq_zero_or_pos k with q | q
    · subst q; exact ⟨h.1, by omega⟩
    · have h0 := hk 0 q
      rw [Nat.add_zero] at h0
      have h2 := h.2.resolve_left h0
      have := spC_good (n := n) (k := k - 1) (j := j + 1) h2 (fun i hi => by
        have := hk (i + 1) (by omega)
        rwa [show j + (i + 1) = j + 1 + i by omega] at this)
      rw [show j + 1 + (k - 1) = j + k by omega] at this
      exact ⟨this.1, by omega⟩
/-- a state on the way of Euclid's steps -/
def SV (p k : Nat) : Prop := SPb p = true ∧ ∀ i, i < k → (spS p i).2.1 ≠ 0
theorem SV.p {p k : Nat} (h : SV p k) : 5 ≤ p ∧ p ≤ 997 ∧ p % 4 = 1 := by
  have h := h.1
  simp only [SPb, Bool.and_eq_true, decide_eq_true_eq] at h
  omega
theorem aB_le {x b : Int} (h : aB x ≤ b) : -b ≤ x ∧ x ≤ b := by unfold aB at h; split at h <;> omega
theorem SV.good {p k : Nat} (h : SV p k) : 0 ≤ (spS p k).2.1 ∧ (spS p k).2.1 < (spS p k).1 ∧ (spS p k).1 ≤ p ∧ aB (spS p k).2.2.1 ≤ p ∧ aB (spS p k).2.2.2 ≤ p ∧ ((spS p k).2.1 = 0 → (spS p k).1 = 1) ∧ ((spS p k).1 * (spS p k).1 + (spS p k).2.2.1 * (spS p k).2.2.1) % p = 0 ∧ (spS p k).1 * aB (spS p k).2.2.2 + (spS p k).2.1 * aB (spS p k).2.2.1 = p ∧ k < 20 := by
  have h1 := sp_all h.1
  simp only [spAll, Bool.and_eq_true, decide_eq_true_eq] at h1
  obtain ⟨h2, h3⟩ := spC_good (n := 20) (k := k) (j := 0) h1.2 (fun i hi => by rw [Nat.zero_add]; exact h.2 i hi)
  rw [Nat.zero_add] at h2
  simp only [spG, Bool.and_eq_true, decide_eq_true_eq] at h2
  obtain ⟨⟨⟨⟨⟨⟨⟨a, b⟩, c⟩, d⟩, e⟩, f⟩, g⟩, i⟩ := h2
  exact ⟨a, b, c, d, e, f, g, i, h3⟩
theorem SV.next {p k : Nat} (h : SV p k) (h0 : (spS p k).2.1 ≠ 0) : SV p (k + 1) := ⟨h.1, fun i hi => by
  rcases Nat.lt_or_ge i k with q | q
  · exact h.2 i q
  · rw [show i = k by omega]; exact h0⟩
theorem SV.wit {p k : Nat} (h : SV p k) : wit p ≤ 40 ∧ pmN (wit p) p ((p - 1) / 2) = p - 1 ∧ (ima p * ima p + 1) % p = 0 := by
  have h1 := sp_all h.1
  simp only [spAll, Bool.and_eq_true, decide_eq_true_eq] at h1
  exact ⟨h1.1.1.1, h1.1.1.2, h1.1.2⟩
theorem pmN_lt {a p : Nat} (hp : 2 ≤ p) : ∀ k, pmN a p k < p
  | 0 => by show 1 < p; omega
  | k + 1 => Nat.mod_lt _ (by omega)
theorem witF_spec {p : Nat} : ∀ {n w : Nat}, w ≤ witF p n w ∧ witF p n w ≤ w + n ∧ ∀ x, w ≤ x → x < witF p n w → pmN x p ((p - 1) / 2) ≠ p - 1
  | 0, w => ⟨Nat.le_refl _, Nat.le_refl _, fun x h1 h2 => absurd h2 (by show ¬ x < w; omega)⟩
  | n + 1, w => by
    unfold witF
    by_cases q : pmN w p ((p - 1) / 2) = p - 1
    · rw [if_pos q]; exact ⟨Nat.le_refl _, by omega, fun x h1 h2 => by omega⟩
    · rw [if_neg q]
      obtain ⟨a, b, c⟩ := witF_spec (p := p) (n := n) (w := w + 1)
      exact ⟨by omega, by omega, fun x h1 h2 => by
        by_cases e : x = w
        · rw [e]; exact q
        · exact c x (by omega) h2⟩
theorem wit_first {p x : Nat} (h1 : 2 ≤ x) (h2 : x < wit p) : pmN x p ((p - 1) / 2) ≠ p - 1 := witF_spec.2.2 x h1 h2
theorem wit_ge {p : Nat} : 2 ≤ wit p := witF_spec.1
/-- a row that holds such a state -/
def SpR (f : Nat → Int) (p k : Nat) : Prop := SV p k ∧ f 0 = p ∧ f 1 = (spS p k).1 ∧ f 2 = (spS p k).2.1 ∧ f 3 = (spS p k).2.2.1 ∧ f 4 = (spS p k).2.2.2 ∧ f 5 = k
theorem prB_iff {n : Nat} (h : n ≤ 1000) : prB n = true ↔ ∀ k : Nat, 2 ≤ k → k * k ≤ n → n % k ≠ 0 := by
  unfold prB
  rw [List.all_eq_true]
  constructor
  · intro a k k1 k2
    have hk : k < 32 := by
      rcases Nat.lt_or_ge k 32 with q | q
      · exact q
      · have : 32 * 32 ≤ k * k := Nat.mul_le_mul q q
        omega
    have := a k (List.mem_range.mpr hk)
    simp only [Bool.or_eq_true, decide_eq_true_eq] at this
    omega
  · intro a k _
    simp only [Bool.or_eq_true, decide_eq_true_eq]
    rcases Nat.lt_or_ge k 2 with q | q
    · exact Or.inl (Or.inl q)
    · rcases Nat.lt_or_ge n (k * k) with r | r
      · exact Or.inl (Or.inr r)
      · exact Or.inr (a k q r)
