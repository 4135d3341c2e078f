/-! bits of numbers -/
theorem B30_pow (p : Nat) : B30 ^ p = (2 : Int) ^ (30 * p) := by
  rw [Int.pow_mul]; rfl
theorem p2_pos (n : Nat) : 0 < (2 : Int) ^ n := Int.pow_pos (by decide)
theorem p2_le {a b : Nat} (h : a ≤ b) : (2 : Int) ^ a ≤ 2 ^ b := by
  have e : b = a + (b - a) := by omega
  rw [e, Int.pow_add]
  have h1 : (1 : Int) ≤ 2 ^ (b - a) := p2_pos _
  have h2 := Int.mul_le_mul_of_nonneg_left h1 (Int.le_of_lt (p2_pos a))
  omega
theorem jJ_mod (x k : Int) : jJ (x + 18446744073709551616 * k) = jJ x := by
  unfold jJ
  congr 1
  rw [Int64.ofInt_add, Int64.ofInt_mul, show Int64.ofInt 18446744073709551616 = 0 by decide, Int64.zero_mul, Int64.add_zero]
def bt (v : Int) (p : Nat) : Int := v / 2 ^ p % 2
theorem bt_01 (v : Int) (p : Nat) : bt v p = 0 ∨ bt v p = 1 := by unfold bt; omega
theorem bt_lo {x y : Int} {P p : Nat} (h : p < P) : bt (x + 2 ^ P * y) p = bt x p := by
  unfold bt
  have e : P = p + (1 + (P - p - 1)) := by omega
  rw [e, Int.pow_add, Int.pow_add, Int.mul_assoc, Int.add_mul_ediv_left _ _ (Int.ne_of_gt (p2_pos p)), Int.mul_assoc]
  have e1 : (2 : Int) ^ 1 = 2 := by decide
  rw [e1, Int.add_mul_emod_self_left]
theorem bt_hi {x y : Int} {P p : Nat} (h0 : 0 ≤ x) (h1 : x < 2 ^ P) : bt (x + 2 ^ P * y) (P + p) = bt y p := by
  unfold bt
  rw [Int.pow_add, ← Int.ediv_ediv_of_nonneg (Int.le_of_lt (p2_pos P)), Int.add_mul_ediv_left _ _ (Int.ne_of_gt (p2_pos P)), Int.ediv_eq_zero_of_lt h0 h1, Int.zero_add]
theorem bt_big {x : Int} {P p : Nat} (h0 : 0 ≤ x) (h1 : x < 2 ^ P) (h : P ≤ p) : bt x p = 0 := by
  unfold bt
  rw [Int.ediv_eq_zero_of_lt h0 (Int.lt_of_lt_of_le h1 (p2_le h))]; rfl
theorem nv_bit {F : Nat → Int} {N q r : Nat} (hd : dg B30 F N) (hr : r < 30) : bt (nv B30 F N) (30 * q + r) = if q < N then bt (F q) r else 0 := by
  by_cases h : q < N
  · rw [if_pos h]
    obtain ⟨b, rfl⟩ : ∃ b, N = q + (1 + b) := ⟨N - q - 1, by omega⟩
    have d1 : dg B30 F q := dg_less hd (by omega)
    rw [nv_split q, B30_pow, bt_hi (nv_nonneg (by decide) d1) (by rw [← B30_pow]; exact nv_lt (by decide) d1), nv_split 1 b, B30_pow, bt_lo (by omega)]
    show bt (0 + F (q + 0) * B30 ^ 0) r = _
    rw [Int.pow_zero, Int.mul_one, Int.zero_add, Nat.add_zero]
  · rw [if_neg h]
    exact bt_big (P := 30 * N) (nv_nonneg (by decide) hd) (by rw [← B30_pow]; exact nv_lt (by decide) hd) (by omega)
theorem mg_bit {f : Nat → Int} {n q r : Nat} (hd : DG f n) (hr : r < 30) : bt (mg f n) (30 * q + r) = if q + 1 < n then bt (f (q + 1)) r else 0 := by
  unfold mg
  rw [nv_bit hd.dg hr]
  by_cases h : q + 1 < n
  · rw [if_pos h, if_pos (by omega)]; rfl
  · rw [if_neg h, if_neg (by omega)]
/-- the highest place below P that is set, or -1 -/
def hiB (v : Int) : Nat → Int
  | 0 => -1
  | p + 1 => if bt v p = 1 then (p : Int) else hiB v p
def loB (v : Int) : Nat → Int
  | 0 => -1
  | p + 1 => if loB v p < 0 then (if bt v p = 1 then (p : Int) else -1) else loB v p
def onB (v : Int) : Nat → Int
  | 0 => 0
  | p + 1 => onB v p + bt v p
theorem hiB_r (v : Int) : ∀ p : Nat, -1 ≤ hiB v p ∧ hiB v p < p
  | 0 => by unfold hiB; omega
  | p + 1 => by
    have := hiB_r v p
    unfold hiB
    split <;> omega
theorem loB_r (v : Int) : ∀ p : Nat, -1 ≤ loB v p ∧ loB v p < p
  | 0 => by unfold loB; omega
  | p + 1 => by
    have := loB_r v p
    unfold loB
    split
    · split <;> omega
    · omega
theorem onB_r (v : Int) : ∀ p : Nat, 0 ≤ onB v p ∧ onB v p ≤ p
  | 0 => by unfold onB; omega
  | p + 1 => by
    have := onB_r v p
    have := bt_01 v p
    unfold onB
    omega
theorem md_succ (v : Int) (p : Nat) : v % 2 ^ (p + 1) = v % 2 ^ p + 2 ^ p * bt v p := by
  unfold bt
  have hp := p2_pos p
  have h1 : 0 ≤ v % 2 ^ p := Int.emod_nonneg _ (by omega)
  have h2 : v % 2 ^ p < 2 ^ p := Int.emod_lt_of_pos _ hp
  have e : v = 2 ^ p * (v / 2 ^ p) + v % 2 ^ p := (Int.mul_ediv_add_emod v _).symm
  have e2 : v / 2 ^ p = 2 * (v / 2 ^ p / 2) + v / 2 ^ p % 2 := (Int.mul_ediv_add_emod _ 2).symm
  have e3 : v = (v % 2 ^ p + 2 ^ p * (v / 2 ^ p % 2)) + 2 ^ p * 2 * (v / 2 ^ p / 2) := by
    generalize v / 2 ^ p / 2 = k at e2
    generalize v / 2 ^ p % 2 = b at e2
    generalize v / 2 ^ p = q at e e2
    generalize v % 2 ^ p = r at e
    rw [e, e2]; grind
  have h3 : v / 2 ^ p % 2 = 0 ∨ v / 2 ^ p % 2 = 1 := by omega
  have e4 : v % (2 ^ p * 2) = (v % 2 ^ p + 2 ^ p * (v / 2 ^ p % 2)) % (2 ^ p * 2) := by
    have := congrArg (fun x => x % (2 ^ p * 2)) e3
    simp only [Int.add_mul_emod_self_left] at this
    exact this
  rw [Int.pow_succ, e4]
  exact Int.emod_eq_of_lt (by rcases h3 with q | q <;> rw [q] <;> omega) (by rcases h3 with q | q <;> rw [q] <;> omega)
/-- the length in bits -/
theorem hiB_len {v : Int} (h0 : 0 ≤ v) : ∀ {p : Nat}, (hiB v p = -1 ∧ v % 2 ^ p = 0) ∨ ∃ q : Nat, hiB v p = q ∧ 2 ^ q ≤ v % 2 ^ p ∧ v % 2 ^ p < 2 ^ (q + 1)
  | 0 => Or.inl ⟨rfl, by rw [Int.pow_zero]; omega⟩
  | p + 1 => by
    have hp := p2_pos p
    have h1 : 0 ≤ v % 2 ^ p := Int.emod_nonneg _ (by omega)
    have h2 : v % 2 ^ p < 2 ^ p := Int.emod_lt_of_pos _ hp
    rw [md_succ]
    unfold hiB
    rcases bt_01 v p with q | q
    · rw [if_neg (by omega), q, Int.mul_zero, Int.add_zero]
      exact hiB_len h0
    · rw [if_pos q, q, Int.mul_one]
      exact Or.inr ⟨p, rfl, by omega, by rw [Int.pow_succ]; omega⟩
theorem hiB_gt {v : Int} {p k : Nat} (h0 : 0 ≤ v) (h1 : v < 2 ^ p) : (k : Int) < hiB v p + 1 ↔ 2 ^ k ≤ v := by
  have e : v % 2 ^ p = v := Int.emod_eq_of_lt h0 h1
  have hk := p2_pos k
  rcases hiB_len h0 (p := p) with ⟨a, b⟩ | ⟨q, a, b, c⟩
  · rw [e] at b; rw [a, b]; omega
  · rw [e] at b c
    rw [a]
    constructor
    · intro h
      exact Int.le_trans (p2_le (by omega : k ≤ q)) b
    · intro h
      rcases Nat.lt_or_ge q k with r | r
      · have := p2_le (show q + 1 ≤ k by omega); omega
      · omega
theorem i_shr {x y : Int} (hx : -2147483648 ≤ x ∧ x < 2147483648) (hy : 0 ≤ y ∧ y < 32) : Int32.ofInt x >>> (Int32.ofInt y &&& 31) = Int32.ofInt (x / 2 ^ y.toNat) := by
  have key : ∀ s : Fin 32, ((Int32.ofInt ((s : Nat) : Int) &&& 31).toBitVec.smod 32).toNat = s := by decide
  have k := key ⟨y.toNat, by omega⟩
  have ey : (((⟨y.toNat, by omega⟩ : Fin 32) : Nat) : Int) = y := by show ((y.toNat : Nat) : Int) = y; omega
  rw [ey] at k
  have hr : -2147483648 ≤ x / 2 ^ y.toNat ∧ x / 2 ^ y.toNat < 2147483648 := by
    have hp := p2_pos y.toNat
    constructor
    · exact Int.le_ediv_of_mul_le hp (by omega)
    · exact Int.ediv_lt_of_lt_mul hp (by omega)
  apply Int32.toInt_inj.mp
  rw [Int32.toInt_ofInt_of_le (by omega) (by omega)]
  have e : (Int32.ofInt x >>> (Int32.ofInt y &&& 31)).toInt = (Int32.ofInt x).toInt >>> y.toNat := by
    show (BitVec.sshiftRight' _ _).toInt = _
    rw [BitVec.toInt_sshiftRight']
    rw [k]
    rfl
  rw [e, Int32.toInt_ofInt_of_le (by omega) (by omega), Int.shiftRight_eq_div_pow]
  norm_cast
/-- a good base -/
def GB (b : Int) : Prop := 2 ≤ b ∧ b ≤ 99 ∧ ∀ m : Int, m * m ≠ b
theorem BN.cap {f : Nat → Int} {n k : Nat} {z : Int} (h : BN f n z) (hz : -(B30 ^ k) < z ∧ z < B30 ^ k) : n ≤ k + 1 := by
  rcases Nat.lt_or_ge (k + 1) n with q | q
  · have hs := h.s
    have hm := h.m
    have e : n - 1 = (n - 2) + 1 := by omega
    have hd := h.d.dg
    rw [e] at hd
    have b := nv_top (B := B30) (f := mgf f) (n := n - 2) (by decide) hd (by show f (n - 2 + 1) ≠ 0; rw [← e]; exact h.top (by omega))
    rw [← e] at b
    have c := pw_le (show k ≤ n - 2 by omega)
    have b' : B30 ^ (n - 2) ≤ mg f n := b
    rcases hs with r | r | r
    · rw [r.1] at hm; omega
    · omega
    · rw [r.1, Int.one_mul] at hm; omega
  · exact q
theorem hiB_s1 {v : Int} {p : Nat} (h : bt v p = 1) : hiB v (p + 1) = p := if_pos h
theorem hiB_s0 {v : Int} {p : Nat} (h : bt v p = 0) : hiB v (p + 1) = hiB v p := if_neg (by omega)
theorem loB_s1 {v : Int} {p : Nat} (h : bt v p = 1) (h2 : loB v p < 0) : loB v (p + 1) = p := by
  show (if loB v p < 0 then (if bt v p = 1 then (p : Int) else -1) else loB v p) = p
  rw [if_pos h2, if_pos h]
theorem loB_s2 {v : Int} {p : Nat} (h2 : 0 ≤ loB v p) : loB v (p + 1) = loB v p := by
  show (if loB v p < 0 then (if bt v p = 1 then (p : Int) else -1) else loB v p) = _
  rw [if_neg (by omega)]
theorem loB_s0 {v : Int} {p : Nat} (h : bt v p = 0) : loB v (p + 1) = loB v p := by
  have := loB_r v p
  show (if loB v p < 0 then (if bt v p = 1 then (p : Int) else -1) else loB v p) = _
  by_cases q : loB v p < 0
  · rw [if_pos q, if_neg (by omega)]; omega
  · rw [if_neg q]
theorem onB_s {v : Int} {p : Nat} : onB v (p + 1) = onB v p + bt v p := rfl
theorem p2_80 : (2 : Int) ^ 80 = 1208925819614629174706176 := by
  have h : (2 : Int) ^ 80 = ((2 ^ 80 : Nat) : Int) := by simp
  rw [h]; rfl
