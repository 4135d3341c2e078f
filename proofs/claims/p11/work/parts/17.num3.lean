/-! more of rows of digits -/
theorem nv_split {B : Int} {f : Nat → Int} (a : Nat) : ∀ b : Nat, nv B f (a + b) = nv B f a + B ^ a * nv B (fun i => f (a + i)) b
  | 0 => by show nv B f a = nv B f a + B ^ a * 0; rw [Int.mul_zero, Int.add_zero]
  | b + 1 => by
    show nv B f (a + b) + f (a + b) * B ^ (a + b) = nv B f a + B ^ a * (nv B (fun i => f (a + i)) b + f (a + b) * B ^ b)
    rw [nv_split a b, Int.pow_add]
    grind
theorem mul_step {B : Int} (hB : 0 < B) {h h0 f g : Nat → Int} {p t : Nat} {c s : Int} (e : nv B h (p + t) + c * B ^ (p + t) = nv B h0 (p + t) + f p * nv B g t * B ^ p) (hh : h (p + t) = h0 (p + t)) (hs : s = c + (f p * g t + h (p + t))) :
    nv B (iup h (p + t) (s % B)) (p + t + 1) + s / B * B ^ (p + t + 1) = nv B h0 (p + t + 1) + f p * nv B g (t + 1) * B ^ p := by
  rw [nv_up_succ, nv_succ, nv_succ, Int.pow_succ]
  have e2 : s = B * (s / B) + s % B := (Int.mul_ediv_add_emod s B).symm
  generalize s / B = q at e2 ⊢
  generalize s % B = r at e2 ⊢
  rw [hh] at hs
  rw [Int.pow_add] at e ⊢
  grind
theorem mul_end {B : Int} {h h0 f g : Nat → Int} {p m : Nat} {c : Int} (e : nv B h (p + m) + c * B ^ (p + m) = nv B h0 (p + m) + f p * nv B g m * B ^ p) (h0e : nv B h0 (p + m) = nv B f p * nv B g m) : nv B (iup h (p + m) c) (p + m + 1) = nv B f (p + 1) * nv B g m := by
  rw [nv_up_succ, nv_succ, e, h0e]
  grind
/-- the top places of a row, as a number -/
def hv (B : Int) (f : Nat → Int) (n : Nat) : Nat → Int
  | 0 => 0
  | j + 1 => hv B f n j * B + f (n - 1 - j)
theorem hv_nv {B : Int} {f : Nat → Int} {n : Nat} : ∀ j : Nat, j ≤ n → nv B f (n - j) + hv B f n j * B ^ (n - j) = nv B f n
  | 0, _ => by show nv B f n + 0 * _ = _; rw [Int.zero_mul, Int.add_zero]
  | j + 1, h => by
    rw [← hv_nv (B := B) (f := f) (n := n) j (by omega)]
    obtain ⟨k, hk⟩ : ∃ k, n - j = k + 1 := ⟨n - j - 1, by omega⟩
    have e : n - (j + 1) = k := by omega
    have e2 : n - 1 - j = k := by omega
    rw [hk, e, nv_succ, Int.pow_succ]
    show _ + (hv B f n j * B + f (n - 1 - j)) * B ^ k = _
    rw [e2]
    grind
theorem hv_all {B : Int} {f : Nat → Int} {n : Nat} : hv B f n n = nv B f n := by
  have := hv_nv (B := B) (f := f) (n := n) n (Nat.le_refl n)
  rw [Nat.sub_self, Int.pow_zero, Int.mul_one] at this
  rw [← this]
  show hv B f n n = 0 + _
  rw [Int.zero_add]
theorem hv_congr {B : Int} {f g : Nat → Int} {n : Nat} : ∀ {j : Nat}, j ≤ n → (∀ i, n - j ≤ i → i < n → f i = g i) → hv B f n j = hv B g n j
  | 0, _, _ => rfl
  | j + 1, hj, h => by
    show hv B f n j * B + f (n - 1 - j) = hv B g n j * B + g (n - 1 - j)
    rw [hv_congr (by omega) (fun i h1 h2 => h i (by omega) h2), h (n - 1 - j) (by omega) (by omega)]
theorem div_step {B : Int} {f g : Nat → Int} {n j : Nat} {d left q r : Int} (hj : j + 1 ≤ n) (e : hv B g n j * d + left = hv B f n j) (hq : left * B + f (n - 1 - j) = q * d + r) : hv B (iup g (n - 1 - j) q) n (j + 1) * d + r = hv B f n (j + 1) := by
  show (hv B (iup g (n - 1 - j) q) n j * B + iup g (n - 1 - j) q (n - 1 - j)) * d + r = hv B f n j * B + f (n - 1 - j)
  rw [iup_s, hv_congr (g := g) (by omega) (fun i h1 h2 => iup_n (by omega))]
  grind
theorem j_shl {x : Int} (s : Nat) (hs : s < 64) {D : Int64} (hD : (D.toBitVec.smod 64).toNat = s) : Int64.ofInt x <<< D = Int64.ofInt (x * 2 ^ s) := by
  apply Int64.toBitVec.inj
  rw [Int64.toBitVec_shiftLeft]
  show BitVec.ofInt 64 x <<< (D.toBitVec.smod 64) = BitVec.ofInt 64 (x * 2 ^ s)
  rw [show BitVec.ofInt 64 x <<< (D.toBitVec.smod 64) = BitVec.ofInt 64 x <<< s by rw [BitVec.shiftLeft_eq', hD], BitVec.shiftLeft_eq_mul_twoPow, BitVec.ofInt_mul]
  congr 1
  apply BitVec.eq_of_toNat_eq
  rw [BitVec.toNat_twoPow, BitVec.toNat_ofInt]
  have : (2 : Int) ^ s = ((2 ^ s : Nat) : Int) := by simp
  rw [this]
  have h2 : ((2 ^ 64 : Nat) : Int) = ((2 ^ 64 : Nat) : Int) := rfl
  rw [← Int.natCast_emod, Int.toNat_natCast]
theorem j_or {x d : Int} (hx : 0 ≤ x) (hd : 0 ≤ d) (h : d < 1073741824) : Int64.ofInt (x * 1073741824) ||| Int64.ofInt d = Int64.ofInt (x * 1073741824 + d) := by
  obtain ⟨a, rfl⟩ := Int.eq_ofNat_of_zero_le hx
  obtain ⟨b, rfl⟩ := Int.eq_ofNat_of_zero_le hd
  have e1 : (a : Int) * 1073741824 = ((a * 1073741824 : Nat) : Int) := by simp
  have e2 : (a : Int) * 1073741824 + (b : Int) = ((a * 1073741824 + b : Nat) : Int) := by simp
  rw [e2, e1]
  apply Int64.toBitVec.inj
  show BitVec.ofInt 64 _ ||| BitVec.ofInt 64 _ = BitVec.ofInt 64 _
  rw [BitVec.ofInt_natCast, BitVec.ofInt_natCast, BitVec.ofInt_natCast, ← BitVec.ofNat_or]
  congr 1
  rw [show a * 1073741824 = 2 ^ 30 * a by omega]
  exact (Nat.two_pow_add_eq_or_of_lt (i := 30) (b := b) (by omega) a).symm
theorem i_and01 {p q : Prop} [Decidable p] [Decidable q] [Decidable (p ∧ q)] : Int32.ofInt (bI p) &&& Int32.ofInt (bI q) = Int32.ofInt (bI (p ∧ q)) := by
  by_cases h1 : p <;> by_cases h2 : q <;> simp [bI, h1, h2]
