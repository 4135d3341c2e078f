/-! steps of the loops on digits -/
theorem mgf_iup {g : Nat → Int} {j : Nat} {x : Int} : mgf (iup g (j + 1) x) = iup (mgf g) j x := by
  funext i
  show iup g (j + 1) x (i + 1) = iup (mgf g) j x i
  by_cases q : i = j
  · rw [q, iup_s, iup_s]
  · rw [iup_n (by omega), iup_n q]; rfl
theorem mgf_iup0 {g : Nat → Int} {x : Int} : mgf (iup g 0 x) = mgf g := by
  funext i
  show iup g 0 x (i + 1) = g (i + 1)
  rw [iup_n (by omega)]
theorem nv_up_succ {B : Int} {g : Nat → Int} {j : Nat} {x : Int} : nv B (iup g j x) (j + 1) = nv B g j + x * B ^ j := by
  rw [nv_succ, nv_iup_hi (Nat.le_refl j), iup_s]
theorem dig_step {B : Int} (hB : 0 < B) {g : Nat → Int} {j : Nat} {x y : Int} (h : nv B g j + x * B ^ j = y) : nv B (iup g j (x % B)) (j + 1) + x / B * B ^ (j + 1) = y := by
  rw [nv_up_succ, Int.pow_succ, ← h]
  have e : x = B * (x / B) + x % B := (Int.mul_ediv_add_emod x B).symm
  generalize x / B = q at e ⊢
  generalize x % B = r at e ⊢
  subst e
  grind
theorem sub_step {B : Int} {h f g : Nat → Int} {j : Nat} {l l' d : Int} (e : nv B h j = nv B f j - nv B g j + l * B ^ j) (hd : d = f j - l - g j + l' * B) : nv B (iup h j d) (j + 1) = nv B f (j + 1) - nv B g (j + 1) + l' * B ^ (j + 1) := by
  rw [nv_up_succ, nv_succ, nv_succ, Int.pow_succ, e, hd]
  grind
theorem add_step {B : Int} (hB : 0 < B) {h f g : Nat → Int} {j : Nat} {c s : Int} (e : nv B h j + c * B ^ j = nv B f j + nv B g j) (hs : s = c + f j + g j) : nv B (iup h j (s % B)) (j + 1) + s / B * B ^ (j + 1) = nv B f (j + 1) + nv B g (j + 1) := by
  rw [nv_up_succ, nv_succ, nv_succ, Int.pow_succ]
  have e2 : s = B * (s / B) + s % B := (Int.mul_ediv_add_emod s B).symm
  generalize s / B = q at e2 ⊢
  generalize s % B = r at e2 ⊢
  grind
/-- a row as it goes on with zeros -/
def ext (g : Nat → Int) (m : Nat) : Nat → Int := fun i => if i < m then g i else 0
theorem ext_lo {g : Nat → Int} {m i : Nat} (h : i < m) : ext g m i = g i := if_pos h
theorem ext_hi {g : Nat → Int} {m i : Nat} (h : ¬ i < m) : ext g m i = 0 := if_neg h
theorem ext_dg {g : Nat → Int} {m : Nat} (h : DG g m) (n : Nat) : DG (ext g m) n := fun i h1 h2 => by
  by_cases q : i < m
  · rw [ext_lo q]; exact h i h1 q
  · rw [ext_hi q]; omega
theorem ext_mg {g : Nat → Int} {m n : Nat} (hm : 1 ≤ m) (hmn : m ≤ n) : mg (ext g m) n = mg g m := by
  unfold mg
  rw [nv_zeros (f := mgf (ext g m)) (m := m - 1) (n := n - 1) (by omega) (fun i h1 h2 => ext_hi (by omega))]
  exact nv_congr (fun i hi => ext_lo (by omega))
theorem mg_lt {f : Nat → Int} {n : Nat} (h : DG f n) : mg f n < B30 ^ (n - 1) := nv_lt (by decide) h.dg
theorem mg_cmp {f g : Nat → Int} {n k : Nat} (hf : DG f n) (hg : DG g n) (hk1 : 1 ≤ k) (hk : k < n) (he : ∀ i, k < i → i < n → f i = g i) (hl : f k < g k) : mg f n < mg g n :=
  nv_cmp (by decide) hf.dg hg.dg (k := k - 1) (by omega) (fun i h1 h2 => he (i + 1) (by omega) (by omega)) (by show f (k - 1 + 1) < g (k - 1 + 1); rw [show k - 1 + 1 = k by omega]; exact hl)
theorem mg_eq {f g : Nat → Int} {n : Nat} (he : ∀ i, 1 ≤ i → i < n → f i = g i) : mg f n = mg g n := nv_congr (fun i hi => he (i + 1) (by omega) (by omega))
theorem mg_len {f g : Nat → Int} {n m : Nat} (hf : DG f n) (hg : DG g m) (hn : 1 ≤ n) (h : n < m) (h0 : g (m - 1) ≠ 0) : mg f n < mg g m := by
  have a := mg_lt hf
  have e : m - 1 = (m - 2) + 1 := by omega
  have b := nv_top (B := B30) (f := mgf g) (n := m - 2) (by decide) (by have := hg.dg; rwa [e] at this) (by show g (m - 2 + 1) ≠ 0; rw [← e]; exact h0)
  rw [← e] at b
  have c : B30 ^ (n - 1) ≤ B30 ^ (m - 2) := by
    have e2 : m - 2 = (n - 1) + (m - 2 - (n - 1)) := by omega
    rw [e2, Int.pow_add]
    have h1 : (1 : Int) ≤ B30 ^ (m - 2 - (n - 1)) := pw_pos (by decide) _
    have h2 := Int.mul_le_mul_of_nonneg_left h1 (Int.le_of_lt (pw_pos (B := B30) (by decide) (n - 1)))
    omega
  show mg f n < nv B30 (mgf g) (m - 1)
  omega
theorem BN.top {f : Nat → Int} {n : Nat} {z : Int} (h : BN f n z) (hn : 1 < n) : f (n - 1) ≠ 0 := by
  rcases h.2.2.2 with q | q
  · omega
  · exact q.2.1
theorem BN.s {f : Nat → Int} {n : Nat} {z : Int} (h : BN f n z) : f 0 = -1 ∧ z < 0 ∧ 1 < n ∨ f 0 = 0 ∧ z = 0 ∧ n = 1 ∨ f 0 = 1 ∧ 0 < z ∧ 1 < n := by
  obtain ⟨h1, h2, h3, h4⟩ := h
  rcases h4 with ⟨q1, q2⟩ | ⟨q1, q2, q3⟩
  · exact Or.inr (Or.inl ⟨q2, by rw [h3, q2, Int.zero_mul], q1⟩)
  · have p := mg_pos h2 q1 q2
    rcases q3 with q | q
    · exact Or.inr (Or.inr ⟨q, by rw [h3, q, Int.one_mul]; exact p, q1⟩)
    · exact Or.inl ⟨q, by rw [h3, q]; omega, q1⟩
theorem BN.m {f : Nat → Int} {n : Nat} {z : Int} (h : BN f n z) : z = f 0 * mg f n := h.2.2.1
theorem BN.d {f : Nat → Int} {n : Nat} {z : Int} (h : BN f n z) : DG f n := h.2.1
theorem BN.n1 {f : Nat → Int} {n : Nat} {z : Int} (h : BN f n z) : 1 ≤ n := h.1
theorem BN.neg {f g : Nat → Int} {n : Nat} {z : Int} (h : BN f n z) (h0 : g 0 = - f 0) (hg : ∀ i, 1 ≤ i → i < n → g i = f i) : BN g n (-z) := by
  obtain ⟨h1, h2, h3, h4⟩ := h
  refine ⟨h1, fun i a b => by rw [hg i a b]; exact h2 i a b, ?_, ?_⟩
  · rw [mg_eq hg, h0, h3, Int.neg_mul]
  · rcases h4 with ⟨q1, q2⟩ | ⟨q1, q2, q3⟩
    · exact Or.inl ⟨q1, by rw [h0, q2]; rfl⟩
    · exact Or.inr ⟨q1, by rw [hg (n - 1) (by omega) (by omega)]; exact q2, by rw [h0]; omega⟩
theorem j_shr30 {x : Int} (h0 : 0 ≤ x) (h : x < 4611686018427387904) : Int64.ofInt x >>> ((Int32.ofInt 30).toInt64 &&& 63) = Int64.ofInt (x / 1073741824) := by
  apply Int64.toInt_inj.mp
  rw [Int64.toInt_ofInt_of_le (by omega) (by omega)]
  have e : (Int64.ofInt x >>> ((Int32.ofInt 30).toInt64 &&& 63)).toInt = (Int64.ofInt x).toInt >>> 30 := by
    show (BitVec.sshiftRight' _ _).toInt = _
    rw [BitVec.toInt_sshiftRight']
    rfl
  rw [e, Int64.toInt_ofInt_of_le (by omega) (by omega), Int.shiftRight_eq_div_pow]
  rfl
