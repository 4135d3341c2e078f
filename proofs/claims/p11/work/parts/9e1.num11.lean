/-! Fermat: x to the power p - 1 is 1 by the prime p -/
theorem prB_d {p : Nat} (hp : prB p = true) (h9 : 5 ≤ p ∧ p ≤ 997) {d : Nat} (h1 : d ∣ p) : d = 1 ∨ d = p := by
  obtain ⟨e, he⟩ := h1
  have key : ∀ k, 2 ≤ k → k * k ≤ p → p % k ≠ 0 := fun k h2 h3 => by
    have hk : k < 32 := by
      rcases Nat.lt_or_ge k 32 with q | q
      · exact q
      · have := Nat.mul_le_mul q q
        omega
    have := List.all_eq_true.mp hp k (List.mem_range.mpr hk)
    simp only [Bool.or_eq_true, decide_eq_true_eq] at this
    omega
  rcases Nat.lt_or_ge d 2 with q | q
  · rcases (show d = 0 ∨ d = 1 by omega) with r | r
    · subst r; rw [Nat.zero_mul] at he; omega
    · exact Or.inl r
  · rcases Nat.lt_or_ge e 2 with r | r
    · rcases (show e = 0 ∨ e = 1 by omega) with z | z
      · subst z; rw [Nat.mul_zero] at he; omega
      · subst z; rw [Nat.mul_one] at he; exact Or.inr he.symm
    · exfalso
      rcases Nat.le_total d e with z | z
      · refine key d q ?_ ?_
        · rw [he]; exact Nat.mul_le_mul_left d z
        · rw [he]; exact Nat.mul_mod_right d e
      · refine key e r ?_ ?_
        · rw [he]; exact Nat.mul_le_mul_right e z
        · rw [he]; exact Nat.mul_mod_left d e
theorem prB_m {p x y : Nat} (hp : prB p = true) (h9 : 5 ≤ p ∧ p ≤ 997) (h : p ∣ x * y) : p ∣ x ∨ p ∣ y := by
  rcases prB_d hp h9 (Nat.gcd_dvd_left p x) with q | q
  · exact Or.inr (Nat.Coprime.dvd_of_dvd_mul_left (show Nat.Coprime p x from q) h)
  · exact Or.inl (by rw [← q]; exact Nat.gcd_dvd_right p x)
def bnm : Nat → Nat → Nat
  | _, 0 => 1
  | 0, _ + 1 => 0
  | n + 1, k + 1 => bnm n k + bnm n (k + 1)
theorem bnm_0 : ∀ {n k : Nat}, n < k → bnm n k = 0
  | 0, k + 1, _ => rfl
  | n + 1, k + 1, h => by
    show bnm n k + bnm n (k + 1) = 0
    rw [bnm_0 (show n < k by omega), bnm_0 (show n < k + 1 by omega)]
theorem bnm_s : ∀ n : Nat, bnm n n = 1
  | 0 => rfl
  | n + 1 => by
    show bnm n n + bnm n (n + 1) = 1
    rw [bnm_s n, bnm_0 (Nat.lt_succ_self n)]
theorem bnm_k : ∀ n k : Nat, (k + 1) * bnm (n + 1) (k + 1) = (n + 1) * bnm n k
  | 0, 0 => rfl
  | 0, k + 1 => by
    show (k + 1 + 1) * (bnm 0 (k + 1) + bnm 0 (k + 1 + 1)) = 1 * bnm 0 (k + 1)
    rw [bnm_0 (show 0 < k + 1 by omega), bnm_0 (show 0 < k + 1 + 1 by omega)]
    simp
  | n + 1, 0 => by
    have h : 1 * bnm (n + 1) 1 = (n + 1) * bnm n 0 := bnm_k n 0
    show 1 * (bnm (n + 1) 0 + bnm (n + 1) 1) = (n + 1 + 1) * bnm (n + 1) 0
    have e : bnm (n + 1) 0 = 1 := by cases n <;> rfl
    have e2 : bnm n 0 = 1 := by cases n <;> rfl
    rw [e2] at h
    rw [e]
    omega
  | n + 1, k + 1 => by
    have h1 := bnm_k n k
    have h2 := bnm_k n (k + 1)
    show (k + 1 + 1) * (bnm (n + 1) (k + 1) + bnm (n + 1) (k + 1 + 1)) = (n + 1 + 1) * bnm (n + 1) (k + 1)
    have h3 : bnm (n + 1) (k + 1) = bnm n k + bnm n (k + 1) := rfl
    generalize bnm (n + 1) (k + 1 + 1) = x at h2 ⊢
    generalize bnm (n + 1) (k + 1) = y at h1 h3 ⊢
    generalize bnm n k = a at h1 h3
    generalize bnm n (k + 1) = b at h2 h3
    have e1 : (k + 1 + 1) * (y + x) = (k + 1) * y + y + (k + 1 + 1) * x := by rw [Nat.mul_add, Nat.add_mul (k + 1) 1 y, Nat.one_mul]
    have e2 : (n + 1 + 1) * y = (n + 1) * y + y := by rw [Nat.add_mul (n + 1) 1 y, Nat.one_mul]
    have e3 : (n + 1) * y = (n + 1) * a + (n + 1) * b := by rw [h3, Nat.mul_add]
    rw [e1, e2, e3, h1, h2]
    omega
theorem bnm_p {p k : Nat} (hp : prB p = true) (h9 : 5 ≤ p ∧ p ≤ 997) (h0 : 0 < k) (h1 : k < p) : p ∣ bnm p k := by
  obtain ⟨n, rfl⟩ : ∃ n, p = n + 1 := ⟨p - 1, by omega⟩
  obtain ⟨j, rfl⟩ : ∃ j, k = j + 1 := ⟨k - 1, by omega⟩
  have h := bnm_k n j
  have hd : (n + 1) ∣ (j + 1) * bnm (n + 1) (j + 1) := by rw [h]; exact Nat.dvd_mul_right _ _
  rcases prB_m hp h9 hd with q | q
  · have := Nat.le_of_dvd (by omega) q
    omega
  · exact q
/-- sum of f over the numbers below n -/
def smN (f : Nat → Nat) : Nat → Nat
  | 0 => 0
  | n + 1 => smN f n + f n
theorem smN_add (f g : Nat → Nat) : ∀ n, smN (fun k => f k + g k) n = smN f n + smN g n
  | 0 => rfl
  | n + 1 => by
    show smN (fun k => f k + g k) n + (f n + g n) = smN f n + f n + (smN g n + g n)
    rw [smN_add f g n]; omega
theorem smN_mul (f : Nat → Nat) (c : Nat) : ∀ n, smN (fun k => c * f k) n = c * smN f n
  | 0 => rfl
  | n + 1 => by
    show smN (fun k => c * f k) n + c * f n = c * (smN f n + f n)
    rw [smN_mul f c n, Nat.mul_add]
theorem smN_sh (f : Nat → Nat) : ∀ n, smN f (n + 1) = f 0 + smN (fun k => f (k + 1)) n
  | 0 => by show 0 + f 0 = f 0 + 0; omega
  | n + 1 => by
    show smN f (n + 1) + f (n + 1) = f 0 + (smN (fun k => f (k + 1)) n + f (n + 1))
    rw [smN_sh f n]; omega
theorem smN_cg {f g : Nat → Nat} : ∀ {n : Nat}, (∀ k, k < n → f k = g k) → smN f n = smN g n
  | 0, _ => rfl
  | n + 1, h => by
    show smN f n + f n = smN g n + g n
    rw [smN_cg (fun k hk => h k (by omega)), h n (by omega)]
theorem smN_d {f : Nat → Nat} {p : Nat} : ∀ {n : Nat}, (∀ k, k < n → p ∣ f k) → p ∣ smN f n
  | 0, _ => Nat.dvd_zero p
  | n + 1, h => Nat.dvd_add (smN_d (fun k hk => h k (by omega))) (h n (by omega))
theorem binom (x : Nat) : ∀ n : Nat, (x + 1) ^ n = smN (fun k => bnm n k * x ^ k) (n + 1)
  | 0 => rfl
  | n + 1 => by
    have ih := binom x n
    rw [Nat.pow_succ, ih, smN_sh (fun k => bnm (n + 1) k * x ^ k) (n + 1)]
    have e1 : smN (fun k => bnm (n + 1) (k + 1) * x ^ (k + 1)) (n + 1) = x * smN (fun k => bnm n k * x ^ k) (n + 1) + smN (fun k => bnm n (k + 1) * x ^ (k + 1)) (n + 1) := by
      rw [← smN_mul, ← smN_add]
      refine smN_cg (fun k _ => ?_)
      show (bnm n k + bnm n (k + 1)) * x ^ (k + 1) = x * (bnm n k * x ^ k) + bnm n (k + 1) * x ^ (k + 1)
      rw [Nat.add_mul, Nat.pow_succ, Nat.mul_comm (x ^ k) x, Nat.mul_left_comm]
    have e2 : smN (fun k => bnm n k * x ^ k) (n + 1 + 1) = smN (fun k => bnm n k * x ^ k) (n + 1) := by
      show smN (fun k => bnm n k * x ^ k) (n + 1) + bnm n (n + 1) * x ^ (n + 1) = _
      rw [bnm_0 (Nat.lt_succ_self n), Nat.zero_mul, Nat.add_zero]
    have e3 := smN_sh (fun k => bnm n k * x ^ k) (n + 1)
    rw [e2] at e3
    have e4 : bnm (n + 1) 0 * x ^ 0 = bnm n 0 * x ^ 0 := by cases n <;> rfl
    rw [e1, e4, Nat.mul_add, Nat.mul_one, Nat.mul_comm _ x]
    show x * smN (fun k => bnm n k * x ^ k) (n + 1) + smN (fun k => bnm n k * x ^ k) (n + 1) = bnm n 0 * x ^ 0 + (x * smN (fun k => bnm n k * x ^ k) (n + 1) + smN (fun k => bnm n (k + 1) * x ^ (k + 1)) (n + 1))
    have e5 : smN (fun k => bnm n k * x ^ k) (n + 1) = bnm n 0 * x ^ 0 + smN (fun k => bnm n (k + 1) * x ^ (k + 1)) (n + 1) := e3
    omega
theorem pw_add {p x : Nat} (hp : prB p = true) (h9 : 5 ≤ p ∧ p ≤ 997) : (x + 1) ^ p % p = (x ^ p + 1) % p := by
  obtain ⟨n, rfl⟩ : ∃ n, p = n + 1 := ⟨p - 1, by omega⟩
  have h := binom x (n + 1)
  rw [smN_sh] at h
  have e : smN (fun k => bnm (n + 1) (k + 1) * x ^ (k + 1)) (n + 1) = smN (fun k => bnm (n + 1) (k + 1) * x ^ (k + 1)) n + x ^ (n + 1) := by
    show smN (fun k => bnm (n + 1) (k + 1) * x ^ (k + 1)) n + bnm (n + 1) (n + 1) * x ^ (n + 1) = _
    rw [bnm_s, Nat.one_mul]
  have hd : (n + 1) ∣ smN (fun k => bnm (n + 1) (k + 1) * x ^ (k + 1)) n := smN_d (fun k hk => Nat.dvd_trans (bnm_p hp h9 (by omega) (by omega)) (Nat.dvd_mul_right _ _))
  obtain ⟨c, hc⟩ := hd
  have h' : (x + 1) ^ (n + 1) = 1 * 1 + ((n + 1) * c + x ^ (n + 1)) := by
    rw [h, ← hc, ← e]
    rfl
  rw [h', show 1 * 1 + ((n + 1) * c + x ^ (n + 1)) = (x ^ (n + 1) + 1) + (n + 1) * c by omega, Nat.add_mul_mod_self_left]
theorem fer {p : Nat} (hp : prB p = true) (h9 : 5 ≤ p ∧ p ≤ 997) : ∀ x : Nat, x ^ p % p = x % p
  | 0 => by rw [Nat.zero_pow (by omega)]
  | x + 1 => by
    rw [pw_add hp h9, Nat.add_mod, fer hp h9 x, ← Nat.add_mod]
theorem fer1 {p x : Nat} (hp : prB p = true) (h9 : 5 ≤ p ∧ p ≤ 997) (hx : x % p ≠ 0) : x ^ (p - 1) % p = 1 := by
  have h := fer hp h9 x
  obtain ⟨n, rfl⟩ : ∃ n, p = n + 1 := ⟨p - 1, by omega⟩
  rw [show n + 1 - 1 = n by omega]
  rw [Nat.pow_succ] at h
  have h1 : 1 ≤ x := by
    rcases Nat.eq_zero_or_pos x with q | q
    · subst q; exact (hx (Nat.zero_mod _)).elim
    · exact q
  have h2 : 1 ≤ x ^ n := Nat.pow_pos h1
  have hd : (n + 1) ∣ (x ^ n - 1) * x := by
    rw [Nat.sub_mul, Nat.one_mul]
    exact Nat.dvd_of_mod_eq_zero (Nat.sub_mod_eq_zero_of_mod_eq h)
  rcases prB_m hp h9 hd with q | q
  · obtain ⟨c, hc⟩ := q
    have : x ^ n = 1 + (n + 1) * c := by omega
    rw [this, Nat.add_mul_mod_self_left]
    exact Nat.mod_eq_of_lt (by omega)
  · exact (hx (Nat.mod_eq_zero_of_dvd q)).elim
theorem pmN_pow {a p : Nat} (hp : 2 ≤ p) : ∀ k, pmN a p k = a ^ k % p
  | 0 => by show 1 = 1 % p; rw [Nat.mod_eq_of_lt (by omega)]
  | k + 1 => by
    show pmN a p k * (a % p) % p = a ^ (k + 1) % p
    rw [pmN_pow hp k, Nat.pow_succ, ← Nat.mul_mod]
theorem SPb_p {p : Nat} (h : SPb p = true) : prB p = true ∧ (5 ≤ p ∧ p ≤ 997) ∧ p % 4 = 1 := by
  simp only [SPb, Bool.and_eq_true, decide_eq_true_eq] at h
  exact ⟨h.2, h.1.1, h.1.2⟩
theorem sq_1 {p y : Nat} (hp : prB p = true) (h9 : 5 ≤ p ∧ p ≤ 997) (hy : y < p) (h : y * y % p = 1) : y = 1 ∨ y = p - 1 := by
  rcases Nat.eq_zero_or_pos y with q | q
  · subst q
    rw [Nat.zero_mul, Nat.zero_mod] at h
    omega
  · obtain ⟨z, rfl⟩ : ∃ z, y = z + 1 := ⟨y - 1, by omega⟩
    have e : (z + 1) * (z + 1) = z * (z + 2) + 1 := by
      rw [Nat.add_mul, Nat.mul_add, Nat.mul_add, Nat.mul_add]; omega
    have hd : p ∣ z * (z + 2) := by
      have h1 : (z * (z + 2) + 1) % p = 1 % p := by rw [← e, h, Nat.mod_eq_of_lt (by omega)]
      have h2 := Nat.sub_mod_eq_zero_of_mod_eq h1
      rw [Nat.add_sub_cancel] at h2
      exact Nat.dvd_of_mod_eq_zero h2
    rcases prB_m hp h9 hd with r | r
    · rcases Nat.eq_zero_or_pos z with u | u
      · left; omega
      · have := Nat.le_of_dvd u r
        omega
    · have := Nat.le_of_dvd (by omega) r
      right; omega
theorem sym_eq {p : Nat} {x : Int} (h : SPb p = true) : (if x % (p : Int) = 0 then 0 else if pmN (x % (p : Int)).toNat p ((p - 1) / 2) = 1 then 1 else -1 : Int) = (if pmN (x % (p : Int)).toNat p ((p - 1) / 2) = p - 1 then -1 else ((pmN (x % (p : Int)).toNat p ((p - 1) / 2) : Nat) : Int)) := by
  obtain ⟨hp, h9, h4⟩ := SPb_p h
  have x0 := Int.emod_nonneg x (show (p : Int) ≠ 0 by omega)
  have x1 := Int.emod_lt_of_pos x (show (0 : Int) < p by omega)
  obtain ⟨a, ha⟩ := Int.eq_ofNat_of_zero_le x0
  rw [ha] at x1 ⊢
  rw [Int.toNat_natCast]
  have hl := pmN_lt (a := a) (p := p) (by omega) ((p - 1) / 2)
  rcases Nat.eq_zero_or_pos a with q | q
  · subst q
    have e : pmN 0 p ((p - 1) / 2) = 0 := by
      rw [pmN_pow (by omega), Nat.zero_pow (by omega), Nat.zero_mod]
    rw [e, if_pos (by omega), if_neg (by omega)]
    rfl
  · have hf := fer1 hp h9 (x := a) (by rw [Nat.mod_eq_of_lt (by omega)]; omega)
    have hy : pmN a p ((p - 1) / 2) * pmN a p ((p - 1) / 2) % p = 1 := by
      rw [pmN_pow (by omega), ← Nat.mul_mod, ← Nat.pow_add, show (p - 1) / 2 + (p - 1) / 2 = p - 1 by omega]
      exact hf
    generalize pmN a p ((p - 1) / 2) = y at hl hy ⊢
    rw [if_neg (by omega)]
    rcases sq_1 hp h9 hl hy with r | r
    · rw [if_pos r, if_neg (by omega), r]
      rfl
    · rw [if_neg (by omega), if_pos r]
theorem inv_eq {p : Nat} {x ans : Int} (h : SPb p = true) (hm : (∃ j : Nat, 1 ≤ j ∧ j < p ∧ x % (p : Int) * (j : Int) % (p : Int) = 1 ∧ (∀ i : Nat, 1 ≤ i → i < j → x % (p : Int) * (i : Int) % (p : Int) ≠ 1) ∧ ans = j) ∨ (∀ i : Nat, 1 ≤ i → i < p → x % (p : Int) * (i : Int) % (p : Int) ≠ 1) ∧ ans = 0) : ((pmN (x % (p : Int)).toNat p (p - 2) : Nat) : Int) = ans := by
  obtain ⟨hp, h9, h4⟩ := SPb_p h
  have x0 := Int.emod_nonneg x (show (p : Int) ≠ 0 by omega)
  have x1 := Int.emod_lt_of_pos x (show (0 : Int) < p by omega)
  obtain ⟨a, ha⟩ := Int.eq_ofNat_of_zero_le x0
  rw [ha] at x1 hm ⊢
  rw [Int.toNat_natCast]
  have hl := pmN_lt (a := a) (p := p) (by omega) (p - 2)
  have cv : ∀ i : Nat, (a : Int) * (i : Int) % (p : Int) = ((a * i % p : Nat) : Int) := fun i => by
    rw [← Int.natCast_mul, ← Int.natCast_emod]
  rcases Nat.eq_zero_or_pos a with q | q
  · subst q
    have e : pmN 0 p (p - 2) = 0 := by
      rw [pmN_pow (by omega), Nat.zero_pow (by omega), Nat.zero_mod]
    rw [e]
    rcases hm with ⟨j, -, -, g, -⟩ | ⟨-, g⟩
    · rw [cv, Nat.zero_mul, Nat.zero_mod] at g
      omega
    · rw [g]; rfl
  · have hf := fer1 hp h9 (x := a) (by rw [Nat.mod_eq_of_lt (by omega)]; omega)
    have hy : a * pmN a p (p - 2) % p = 1 := by
      have e : a * a ^ (p - 2) = a ^ (p - 1) := by
        rw [Nat.mul_comm, ← Nat.pow_succ, show (p - 2).succ = p - 1 by omega]
      rw [pmN_pow (by omega), Nat.mul_mod, Nat.mod_mod, ← Nat.mul_mod, e]
      exact hf
    generalize pmN a p (p - 2) = y at hl hy ⊢
    have hy0 : 1 ≤ y := by
      rcases Nat.eq_zero_or_pos y with u | u
      · subst u; rw [Nat.mul_zero, Nat.zero_mod] at hy; omega
      · exact u
    rcases hm with ⟨j, j1, j2, g, -, r⟩ | ⟨g, -⟩
    · rw [cv] at g
      have g2 : a * j % p = 1 := by omega
      have e1 : j * (a * y) % p = j := by
        rw [Nat.mul_mod, hy, Nat.mul_one, Nat.mod_mod, Nat.mod_eq_of_lt j2]
      have e2 : y * (a * j) % p = y := by
        rw [Nat.mul_mod, g2, Nat.mul_one, Nat.mod_mod, Nat.mod_eq_of_lt hl]
      have e3 : j * (a * y) = y * (a * j) := by
        rw [Nat.mul_left_comm j a y, Nat.mul_left_comm y a j, Nat.mul_comm j y]
      rw [e3, e2] at e1
      rw [r, e1]
    · exact (g y hy0 hl (by rw [cv, hy]; rfl)).elim
