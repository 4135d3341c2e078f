/-! numbers in a base: the value of a row of digits -/
def nv (B : Int) (f : Nat → Int) : Nat → Int
  | 0 => 0
  | n + 1 => nv B f n + f n * B ^ n
def dg (B : Int) (f : Nat → Int) (n : Nat) : Prop := ∀ i, i < n → 0 ≤ f i ∧ f i < B
theorem nv_succ (B : Int) (f : Nat → Int) (n : Nat) : nv B f (n + 1) = nv B f n + f n * B ^ n := rfl
theorem nv_congr {B : Int} {f g : Nat → Int} : ∀ {n : Nat}, (∀ i, i < n → f i = g i) → nv B f n = nv B g n
  | 0, _ => rfl
  | n + 1, h => by rw [nv_succ, nv_succ, nv_congr (fun i hi => h i (by omega)), h n (by omega)]
theorem dg_congr {B : Int} {f g : Nat → Int} {n : Nat} (h : ∀ i, i < n → f i = g i) (hf : dg B f n) : dg B g n := fun i hi => by rw [← h i hi]; exact hf i hi
theorem dg_less {B : Int} {f : Nat → Int} {n m : Nat} (h : dg B f n) (hm : m ≤ n) : dg B f m := fun i hi => h i (by omega)
theorem pw_pos {B : Int} (hB : 0 < B) (n : Nat) : 0 < B ^ n := Int.pow_pos hB
theorem nv_nonneg {B : Int} (hB : 0 < B) {f : Nat → Int} : ∀ {n : Nat}, dg B f n → 0 ≤ nv B f n
  | 0, _ => Int.le_refl 0
  | n + 1, h => by
    have h1 := nv_nonneg hB (dg_less h (Nat.le_succ n))
    have h2 := Int.mul_nonneg (h n (by omega)).1 (Int.le_of_lt (pw_pos hB n))
    rw [nv_succ]; omega
theorem nv_lt {B : Int} (hB : 0 < B) {f : Nat → Int} : ∀ {n : Nat}, dg B f n → nv B f n < B ^ n
  | 0, _ => by rw [Int.pow_zero]; show (0 : Int) < 1; decide
  | n + 1, h => by
    have h1 := nv_lt hB (dg_less h (Nat.le_succ n))
    have h2 := (h n (by omega)).2
    have h3 : f n * B ^ n ≤ (B - 1) * B ^ n := Int.mul_le_mul_of_nonneg_right (by omega) (Int.le_of_lt (pw_pos hB n))
    rw [nv_succ, Int.pow_succ]
    rw [Int.sub_mul, Int.one_mul] at h3
    rw [Int.mul_comm (B ^ n) B]
    omega
theorem nv_zeros {B : Int} {f : Nat → Int} {m : Nat} : ∀ {n : Nat}, m ≤ n → (∀ i, m ≤ i → i < n → f i = 0) → nv B f n = nv B f m
  | 0, h, _ => by rw [Nat.le_zero.mp h]
  | n + 1, h, hz => by
    rcases Nat.lt_or_ge m (n + 1) with q | q
    · rw [nv_succ, hz n (by omega) (by omega), Int.zero_mul, Int.add_zero]
      exact nv_zeros (by omega) (fun i h1 h2 => hz i h1 (by omega))
    · rw [show m = n + 1 by omega]
theorem nv_iup_hi {B : Int} {f : Nat → Int} {n k : Nat} {x : Int} (h : n ≤ k) : nv B (iup f k x) n = nv B f n :=
  nv_congr (fun i hi => by unfold iup; rw [if_neg (by omega)])
theorem nv_iup {B : Int} {f : Nat → Int} {k : Nat} {x : Int} : ∀ {n : Nat}, k < n → nv B (iup f k x) n = nv B f n + (x - f k) * B ^ k
  | 0, h => absurd h (Nat.not_lt_zero k)
  | n + 1, h => by
    rw [nv_succ, nv_succ]
    rcases Nat.lt_or_ge k n with q | q
    · rw [nv_iup q]
      have e : iup f k x n = f n := by unfold iup; rw [if_neg (by omega)]
      rw [e]; omega
    · have e : k = n := by omega
      subst e
      rw [nv_iup_hi (Nat.le_refl k)]
      have e : iup f k x k = x := by unfold iup; rw [if_pos rfl]
      rw [e, Int.sub_mul]; omega
theorem iup_s {f : Nat → Int} {k : Nat} {x : Int} : iup f k x k = x := by unfold iup; rw [if_pos rfl]
theorem iup_n {f : Nat → Int} {k j : Nat} {x : Int} (h : j ≠ k) : iup f k x j = f j := by unfold iup; rw [if_neg h]
theorem nv_top {B : Int} (hB : 0 < B) {f : Nat → Int} {n : Nat} (h : dg B f (n + 1)) (h0 : f n ≠ 0) : B ^ n ≤ nv B f (n + 1) := by
  have h1 := nv_nonneg hB (dg_less h (Nat.le_succ n))
  have h2 := (h n (by omega)).1
  have h3 : 1 * B ^ n ≤ f n * B ^ n := Int.mul_le_mul_of_nonneg_right (by omega) (Int.le_of_lt (pw_pos hB n))
  rw [nv_succ]; omega
/-- the greater one is told by the highest place where they differ -/
theorem nv_cmp {B : Int} (hB : 0 < B) {f g : Nat → Int} {n k : Nat} (hf : dg B f n) (hg : dg B g n) (hk : k < n) (he : ∀ i, k < i → i < n → f i = g i) (hl : f k < g k) : nv B f n < nv B g n := by
  have key : ∀ (m : Nat), k < m → m ≤ n → nv B f m < nv B g m := by
    intro m
    induction m with
    | zero => intro h; omega
    | succ m ih =>
      intro h1 h2
      rw [nv_succ, nv_succ]
      rcases Nat.lt_or_ge k m with q | q
      · have := ih q (by omega)
        rw [he m q (by omega)]; omega
      · have e : k = m := by omega
        subst e
        have a1 := nv_lt hB (dg_less hf (by omega : k ≤ n))
        have a2 := nv_nonneg hB (dg_less hg (by omega : k ≤ n))
        have a3 : (f k + 1) * B ^ k ≤ g k * B ^ k := Int.mul_le_mul_of_nonneg_right (by omega) (Int.le_of_lt (pw_pos hB k))
        rw [Int.add_mul, Int.one_mul] at a3
        omega
  exact key n hk (Nat.le_refl n)
theorem nv_inj {B : Int} (hB : 0 < B) {f g : Nat → Int} : ∀ {n : Nat}, dg B f n → dg B g n → nv B f n = nv B g n → ∀ i, i < n → f i = g i
  | 0, _, _, _, i, hi => absurd hi (Nat.not_lt_zero i)
  | n + 1, hf, hg, h, i, hi => by
    rcases Int.lt_trichotomy (f n) (g n) with q | q | q
    · have := nv_cmp hB hf hg (k := n) (by omega) (fun i h1 h2 => by omega) q; omega
    · rcases Nat.lt_or_ge i n with r | r
      · rw [nv_succ, nv_succ, q] at h
        exact nv_inj hB (dg_less hf (Nat.le_succ n)) (dg_less hg (Nat.le_succ n)) (by omega) i r
      · rw [show i = n by omega]; exact q
    · have := nv_cmp hB hg hf (k := n) (by omega) (fun i h1 h2 => by omega) q; omega
/-! bits: masks and shifts of ints and longs -/
theorem bv_and_mask {W k : Nat} (x : Int) (hk : k ≤ W) : BitVec.ofInt W x &&& BitVec.ofNat W (2 ^ k - 1) = BitVec.ofInt W (x % (2 : Int) ^ k) := by
  apply BitVec.eq_of_toNat_eq
  have hp : (0 : Int) < (2 : Int) ^ k := Int.pow_pos (by decide)
  have hW : (0 : Int) < (2 : Int) ^ W := Int.pow_pos (by decide)
  have hkW : (2 : Int) ^ k ≤ (2 : Int) ^ W := by
    rw [← Nat.add_sub_cancel' hk, Int.pow_add]
    have h1 : (1 : Int) ≤ (2 : Int) ^ (W - k) := Int.pow_pos (by decide)
    have h2 := Int.mul_le_mul_of_nonneg_left h1 (Int.le_of_lt hp)
    omega
  have hN : 2 ^ k ≤ 2 ^ W := Nat.pow_le_pow_right (by decide) hk
  have hNp : 0 < 2 ^ k := Nat.pow_pos (by decide)
  rw [BitVec.toNat_and, BitVec.toNat_ofInt, BitVec.toNat_ofInt, BitVec.toNat_ofNat, Nat.mod_eq_of_lt (a := 2 ^ k - 1) (by omega), Nat.and_two_pow_sub_one_eq_mod]
  have e1 : ((2 ^ W : Nat) : Int) = (2 : Int) ^ W := by simp
  have e2 : ((2 ^ k : Nat) : Int) = (2 : Int) ^ k := by simp
  have h3 : 0 ≤ x % (2 : Int) ^ k := Int.emod_nonneg _ (by omega)
  have h4 : x % (2 : Int) ^ k < (2 : Int) ^ k := Int.emod_lt_of_pos _ hp
  have h5 : 0 ≤ x % (2 : Int) ^ W := Int.emod_nonneg _ (by omega)
  apply Int.ofNat.inj
  show ((_ : Nat) : Int) = ((_ : Nat) : Int)
  rw [Int.natCast_emod, Int.toNat_of_nonneg (by rw [e1]; exact h5), Int.toNat_of_nonneg (by rw [e1]; exact Int.emod_nonneg _ (by omega)), e1, e2, Int.emod_eq_of_lt h3 (by omega)]
  exact Int.emod_emod_of_dvd x (by rw [← Nat.add_sub_cancel' hk, Int.pow_add]; exact Int.dvd_mul_right _ _)
theorem i_mask {x m : Int} (k : Nat) (hk : k ≤ 31) (hm : m = 2 ^ k - 1) : Int32.ofInt x &&& Int32.ofInt m = Int32.ofInt (x % (2 : Int) ^ k) := by
  apply Int32.toBitVec.inj
  have e : (Int32.ofInt m).toBitVec = BitVec.ofNat 32 (2 ^ k - 1) := by
    have h1 : 1 ≤ 2 ^ k := Nat.pow_pos (by decide)
    have : m = ((2 ^ k - 1 : Nat) : Int) := by rw [hm]; push_cast [h1]; simp
    rw [this]
    show BitVec.ofInt 32 _ = _
    rw [BitVec.ofInt_natCast]
  show (Int32.ofInt x).toBitVec &&& (Int32.ofInt m).toBitVec = BitVec.ofInt 32 _
  rw [e]
  exact bv_and_mask x (by omega)
theorem j_mask {x m : Int} (k : Nat) (hk : k ≤ 63) (hm : m = 2 ^ k - 1) : Int64.ofInt x &&& Int64.ofInt m = Int64.ofInt (x % (2 : Int) ^ k) := by
  apply Int64.toBitVec.inj
  have e : (Int64.ofInt m).toBitVec = BitVec.ofNat 64 (2 ^ k - 1) := by
    have h1 : 1 ≤ 2 ^ k := Nat.pow_pos (by decide)
    have : m = ((2 ^ k - 1 : Nat) : Int) := by rw [hm]; push_cast [h1]; simp
    rw [this]
    show BitVec.ofInt 64 _ = _
    rw [BitVec.ofInt_natCast]
  show (Int64.ofInt x).toBitVec &&& (Int64.ofInt m).toBitVec = BitVec.ofInt 64 _
  rw [e]
  exact bv_and_mask x (by omega)
