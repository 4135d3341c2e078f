/-! the class's own numbers: eighteen digits of 28 bits -/
abbrev B28 : Int := 268435456
def DC (f : Nat → Int) : Prop := ∀ i, i < 18 → 0 ≤ f i ∧ f i < B28
def Wr (f : Nat → Int) (u : Nat) : Prop := DC f ∧ u ≤ 18 ∧ (∀ i, u ≤ i → i < 18 → f i = 0) ∧ (0 < u → f (u - 1) ≠ 0)
def V18 (f : Nat → Int) : Int := nv B28 f 18
def WN (f : Nat → Int) (u : Nat) (bl z : Int) : Prop := Wr f u ∧ (bl = 1 ∧ 0 < u ∧ z = -V18 f ∨ bl = 0 ∧ z = V18 f)
def oW (r u : Nat) (bl : Int) : Ent := eO 7 [.ref r, iI (u : Int), iI bl]
def WA (w : Wd) (a r : Nat) (z : Int) : Prop := ∃ (f : Nat → Int) (u : Nat) (bl : Int), w.2 a = some (true, oW r u bl) ∧ w.2 r = some (true, eI 18 f) ∧ WN f u bl z
def FrW (w w' : Wd) (a r : Nat) : Prop := w'.1 = w.1 ∧ ∀ b, b ≠ a → b ≠ r → w'.2 b = w.2 b
def FrA (w w' : Wd) (a : Nat) : Prop := w'.1 = w.1 ∧ ∀ b, b ≠ a → w'.2 b = w.2 b
theorem FrA.w {w u : Wd} {a : Nat} (h : FrA w u a) (r : Nat) : FrW w u a r := ⟨h.1, fun b h1 _ => h.2 b h1⟩
theorem FrW.rf (w : Wd) (a r : Nat) : FrW w w a r := ⟨rfl, fun _ _ _ => rfl⟩
theorem FrA.rf (w : Wd) (a : Nat) : FrA w w a := ⟨rfl, fun _ _ => rfl⟩
theorem FrW.tr {w u x : Wd} {a r : Nat} (h : FrW w u a r) (g : FrW u x a r) : FrW w x a r := ⟨g.1.trans h.1, fun b h1 h2 => (g.2 b h1 h2).trans (h.2 b h1 h2)⟩
theorem FrW.set {w u : Wd} {a r b : Nat} (h : FrW w u a r) (hb : b = a ∨ b = r) (e : WdE) : FrW w (wset u b e) a r := ⟨h.1, fun c h1 h2 => by rw [wset_n (by omega)]; exact h.2 c h1 h2⟩
theorem FrA.set {w u : Wd} {a : Nat} (h : FrA w u a) (e : WdE) : FrA w (wset u a e) a := ⟨h.1, fun c h1 => by rw [wset_n h1]; exact h.2 c h1⟩
theorem WA.ne {w : Wd} {a r b s : Nat} {x y : Int} (h : WA w a r x) (g : WA w b s y) : a ≠ s ∧ a ≠ r := by
  obtain ⟨f, u, bl, h1, h2, -⟩ := h
  obtain ⟨f2, u2, bl2, g1, g2, -⟩ := g
  constructor
  · intro e; rw [e, g2] at h1; simp [oW] at h1
  · intro e; rw [e, h2] at h1; simp [oW] at h1
theorem WA.fr {w u : Wd} {a r b s : Nat} {z : Int} (h : WA w a r z) (g : FrW w u b s) (h1 : a ≠ b) (h2 : r ≠ s) (h3 : a ≠ s) (h4 : r ≠ b) : WA u a r z := by
  obtain ⟨f, uu, bl, e1, e2, e3⟩ := h
  exact ⟨f, uu, bl, by rw [g.2 a h1 h3]; exact e1, by rw [g.2 r h4 h2]; exact e2, e3⟩
theorem DC.dg {f : Nat → Int} (h : DC f) {n : Nat} (hn : n ≤ 18) : dg B28 f n := fun i hi => h i (by omega)
theorem V18_0 {f : Nat → Int} (h : DC f) : 0 ≤ V18 f := nv_nonneg (by decide) (h.dg (Nat.le_refl _))
theorem Wr.val {f : Nat → Int} {u : Nat} (h : Wr f u) : V18 f = nv B28 f u := nv_zeros h.2.1 h.2.2.1
theorem Wr.pos {f : Nat → Int} {u : Nat} (h : Wr f u) (hu : 0 < u) : 0 < V18 f := by
  obtain ⟨k, rfl⟩ : ∃ k, u = k + 1 := ⟨u - 1, by omega⟩
  have h4 := h.2.2.2 hu
  rw [Nat.add_sub_cancel] at h4
  have := nv_top (B := B28) (f := f) (n := k) (by decide) (h.1.dg h.2.1) h4
  rw [← h.val] at this
  have := pw_pos (B := B28) (by decide) k
  omega
theorem Wr.zero {f : Nat → Int} {u : Nat} (h : Wr f u) : V18 f = 0 ↔ u = 0 := by
  constructor
  · intro q
    rcases Nat.eq_zero_or_pos u with c | c
    · exact c
    · have := h.pos c; omega
  · intro q
    rw [h.val, q]; rfl
theorem WN.ab {f : Nat → Int} {u : Nat} {bl z : Int} (h : WN f u bl z) : aB z = V18 f ∧ (bl = 1 ∧ z < 0 ∨ bl = 0 ∧ 0 ≤ z) ∧ (u = 0 ↔ z = 0) := by
  obtain ⟨hw, h⟩ := h
  have h0 := V18_0 hw.1
  have hz := hw.zero
  rcases h with ⟨c1, c2, c3⟩ | ⟨c1, c2⟩
  · have := hw.pos c2
    refine ⟨by unfold aB; split <;> omega, Or.inl ⟨c1, by omega⟩, ⟨fun q => by omega, fun q => by omega⟩⟩
  · refine ⟨by unfold aB; split <;> omega, Or.inr ⟨c1, by omega⟩, ⟨fun q => by rw [c2]; exact hz.mpr q, fun q => by rw [c2] at q; exact hz.mp q⟩⟩
theorem Wr.uniq {f : Nat → Int} {u v : Nat} (h : Wr f u) (g : Wr f v) : u = v := by
  rcases Nat.lt_trichotomy u v with q | q | q
  · have := g.2.2.2 (by omega); have := h.2.2.1 (v - 1) (by omega) (by have := g.2.1; omega); omega
  · exact q
  · have := h.2.2.2 (by omega); have := g.2.2.1 (u - 1) (by omega) (by have := h.2.1; omega); omega
theorem j_ushr {x : Int} (s : Nat) (hs : s < 64) (hx : 0 ≤ x ∧ x < 9223372036854775808) {D : UInt64} (hD : D.toBitVec.toNat % 64 = s) : ((Int64.ofInt x).toUInt64 >>> D).toInt64 = Int64.ofInt (x / 2 ^ s) := by
  obtain ⟨k, rfl⟩ := Int.eq_ofNat_of_zero_le hx.1
  have hk : k < 2 ^ 64 := by omega
  have e0 : (Int64.ofInt (k : Int)).toUInt64 = UInt64.ofNat k := by
    apply UInt64.toBitVec_inj.mp
    show BitVec.ofInt 64 (k : Int) = _
    rw [BitVec.ofInt_natCast]; rfl
  have e1 : (UInt64.ofNat k >>> D) = UInt64.ofNat (k / 2 ^ s) := by
    apply UInt64.toNat_inj.mp
    rw [UInt64.toNat_shiftRight, UInt64.toNat_ofNat_of_lt' hk, UInt64.toNat_ofNat_of_lt' (Nat.lt_of_le_of_lt (Nat.div_le_self _ _) hk), Nat.shiftRight_eq_div_pow]
    congr 2
  rw [e0, e1]
  have e2 : (k : Int) / 2 ^ s = ((k / 2 ^ s : Nat) : Int) := by simp
  rw [e2]
  apply Int64.toBitVec_inj.mp
  show (UInt64.ofNat (k / 2 ^ s)).toBitVec = BitVec.ofInt 64 _
  rw [BitVec.ofInt_natCast]; rfl
theorem i_ushr {x : Int} (s : Nat) (hs : s < 32) (hx : 0 ≤ x ∧ x < 2147483648) {D : UInt32} (hD : D.toBitVec.toNat % 32 = s) : ((Int32.ofInt x).toUInt32 >>> D).toInt32 = Int32.ofInt (x / 2 ^ s) := by
  obtain ⟨k, rfl⟩ := Int.eq_ofNat_of_zero_le hx.1
  have hk : k < 2 ^ 32 := by omega
  have e0 : (Int32.ofInt (k : Int)).toUInt32 = UInt32.ofNat k := by
    apply UInt32.toBitVec_inj.mp
    show BitVec.ofInt 32 (k : Int) = _
    rw [BitVec.ofInt_natCast]; rfl
  have e1 : (UInt32.ofNat k >>> D) = UInt32.ofNat (k / 2 ^ s) := by
    apply UInt32.toNat_inj.mp
    rw [UInt32.toNat_shiftRight, UInt32.toNat_ofNat_of_lt' hk, UInt32.toNat_ofNat_of_lt' (Nat.lt_of_le_of_lt (Nat.div_le_self _ _) hk), Nat.shiftRight_eq_div_pow]
    congr 2
  rw [e0, e1]
  have e2 : (k : Int) / 2 ^ s = ((k / 2 ^ s : Nat) : Int) := by simp
  rw [e2]
  apply Int32.toBitVec_inj.mp
  show (UInt32.ofNat (k / 2 ^ s)).toBitVec = BitVec.ofInt 32 _
  rw [BitVec.ofInt_natCast]; rfl
theorem B28p : (2 : Int) ^ 28 = B28 := by decide
theorem mask28 : (268435455 : Int) = 2 ^ 28 - 1 := by decide
theorem nv_iup28 {f : Nat → Int} {n k : Nat} {x : Int} (h : n ≤ k) : nv B28 (iup f k x) n = nv B28 f n := nv_iup_hi h
def RA (w : Wd) (a r : Nat) (f : Nat → Int) (u : Nat) (bl : Int) : Prop := w.2 a = some (true, oW r u bl) ∧ w.2 r = some (true, eI 18 f) ∧ Wr f u ∧ (bl = 0 ∨ bl = 1)
theorem WA.ra {w : Wd} {a r : Nat} {z : Int} (h : WA w a r z) : ∃ f u bl, RA w a r f u bl ∧ WN f u bl z := by
  obtain ⟨f, u, bl, h1, h2, h3⟩ := h
  exact ⟨f, u, bl, ⟨h1, h2, h3.1, by have := h3.ab.2.1; omega⟩, h3⟩
theorem RA.ne {w : Wd} {a r : Nat} {f : Nat → Int} {u : Nat} {bl : Int} (h : RA w a r f u bl) : a ≠ r := by
  obtain ⟨h1, h2, -⟩ := h
  intro e; rw [e, h2] at h1; simp [oW] at h1
theorem RA.ne2 {w : Wd} {a r b s : Nat} {f g : Nat → Int} {u v : Nat} {bl bm : Int} (h : RA w a r f u bl) (k : RA w b s g v bm) : a ≠ s := by
  obtain ⟨h1, -⟩ := h
  obtain ⟨-, k2, -⟩ := k
  intro e; rw [e, k2] at h1; simp [oW] at h1
theorem RA.wa {w : Wd} {a r : Nat} {f : Nat → Int} {u : Nat} {bl : Int} (h : RA w a r f u (if 0 < u then bl else 0)) (hb : bl = 0 ∨ bl = 1) : WA w a r (if bl = 1 then -V18 f else V18 f) := by
  obtain ⟨h1, h2, h3, -⟩ := h
  refine ⟨f, u, _, h1, h2, h3, ?_⟩
  rcases Nat.eq_zero_or_pos u with c | c
  · have hz : V18 f = 0 := h3.zero.mpr c
    rw [if_neg (by omega), hz]
    exact Or.inr ⟨rfl, by split <;> omega⟩
  · rw [if_pos c]
    rcases hb with q | q
    · rw [q, if_neg (by decide)]; exact Or.inr ⟨rfl, rfl⟩
    · rw [q, if_pos rfl]; exact Or.inl ⟨rfl, c, rfl⟩
theorem mx18 {u v : Nat} (hu : u ≤ 18) (hv : v ≤ 18) : ∃ q : Nat, u ≤ q ∧ v ≤ q ∧ q ≤ 18 ∧ (q = u ∨ q = v) ∧ (if (u : Int) < (v : Int) then (v : Int) else (u : Int)) = (q : Int) ∧ (if (q : Int) < 18 then (q : Int) else 18) = (q : Int) := by
  refine ⟨if u < v then v else u, ?_, ?_, ?_, ?_, ?_, ?_⟩
  · split <;> omega
  · split <;> omega
  · split <;> omega
  · split <;> omega
  · split <;> split <;> omega
  · split <;> split <;> omega
theorem mn18 (q : Nat) : ∃ e : Nat, e ≤ 18 ∧ (e = q ∧ q < 18 ∨ e = 18 ∧ 18 ≤ q) ∧ (if (q : Int) < 18 then (q : Int) else 18) = (e : Int) := by
  refine ⟨if q < 18 then q else 18, ?_, ?_, ?_⟩
  · split <;> omega
  · split <;> omega
  · split <;> split <;> omega
theorem pw28_le {a b : Nat} (h : a ≤ b) : B28 ^ a ≤ B28 ^ b := by
  have e : b = a + (b - a) := by omega
  rw [e, Int.pow_add]
  have h1 : (1 : Int) ≤ B28 ^ (b - a) := pw_pos (by decide) _
  have h2 := Int.mul_le_mul_of_nonneg_left h1 (Int.le_of_lt (pw_pos (B := B28) (by decide) a))
  omega
theorem Wr.lt {f : Nat → Int} {u : Nat} (h : Wr f u) : V18 f < B28 ^ u := by rw [h.val]; exact nv_lt (by decide) (h.1.dg h.2.1)
theorem Wr.ge {f : Nat → Int} {u : Nat} (h : Wr f (u + 1)) : B28 ^ u ≤ V18 f := by
  rw [h.val]
  exact nv_top (by decide) (h.1.dg h.2.1) (by have := h.2.2.2 (Nat.succ_pos u); rwa [Nat.add_sub_cancel] at this)
theorem Wr.len {f g : Nat → Int} {u v : Nat} (h : Wr f u) (k : Wr g v) (hle : V18 g ≤ V18 f) : v ≤ u := by
  rcases Nat.lt_or_ge u v with q | q
  · obtain ⟨t, rfl⟩ : ∃ t, v = t + 1 := ⟨v - 1, by omega⟩
    have := k.ge; have := h.lt; have := pw28_le (a := u) (b := t) (by omega); omega
  · exact q
theorem Wr.cap {f : Nat → Int} {u k : Nat} (h : Wr f u) (hk : V18 f < B28 ^ k) : u ≤ k := by
  rcases Nat.lt_or_ge k u with q | q
  · obtain ⟨t, rfl⟩ : ∃ t, u = t + 1 := ⟨u - 1, by omega⟩
    have := h.ge; have := pw28_le (a := k) (b := t) (by omega); omega
  · exact q
theorem sm_step {B : Int} {h g : Nat → Int} {t : Nat} {a c s m : Int} (e : nv B h t + c * B ^ t = a * nv B g t + m) (hs : s = c + g t * a) : nv B (iup h t (s % B)) (t + 1) + s / B * B ^ (t + 1) = a * nv B g (t + 1) + m := by
  rw [nv_up_succ, nv_succ, Int.pow_succ]
  have e2 : s = B * (s / B) + s % B := (Int.mul_ediv_add_emod s B).symm
  generalize s / B = q at e2 ⊢
  generalize s % B = r at e2 ⊢
  grind
theorem DC.up {f : Nat → Int} (h : DC f) (k : Nat) {x : Int} (hx : 0 ≤ x ∧ x < B28) : DC (iup f k x) := by
  intro i hi
  by_cases q : i = k
  · rw [q, iup_s]; exact hx
  · rw [iup_n q]; exact h i hi
theorem mod28 (x : Int) : 0 ≤ x % B28 ∧ x % B28 < B28 := ⟨Int.emod_nonneg _ (by decide), Int.emod_lt_of_pos _ (by decide)⟩
theorem hv_lo {B : Int} (hB : 0 < B) {f : Nat → Int} {n : Nat} (hd : dg B f n) : ∀ {j : Nat}, j ≤ n → 0 ≤ hv B f n j
  | 0, _ => Int.le_refl _
  | j + 1, h => by
    have h1 := hv_lo hB hd (j := j) (by omega)
    have h2 := hd (n - 1 - j) (by omega)
    have := Int.mul_nonneg h1 (Int.le_of_lt hB)
    show 0 ≤ hv B f n j * B + f (n - 1 - j)
    omega
theorem shl_step {B p : Int} {f h : Nat → Int} {b2 : Int} : ∀ {n : Nat}, (∀ i, i < n → h i = (f i * b2) % B + (if i = 0 then p else f (i - 1) * b2 / B)) → nv B h n + (if n = 0 then p else f (n - 1) * b2 / B) * B ^ n = nv B f n * b2 + p
  | 0, _ => by show (0 : Int) + p * B ^ 0 = 0 * b2 + p; rw [Int.pow_zero]; omega
  | n + 1, hh => by
    have ih := shl_step (n := n) (fun i hi => hh i (by omega))
    have h1 := hh n (by omega)
    rw [nv_succ, nv_succ, if_neg (by omega), Nat.add_sub_cancel, h1, Int.pow_succ]
    have e : f n * b2 = B * (f n * b2 / B) + f n * b2 % B := (Int.mul_ediv_add_emod _ _).symm
    generalize hq : f n * b2 / B = q at e ⊢
    generalize hr : f n * b2 % B = r at e ⊢
    generalize (if n = 0 then p else f (n - 1) * b2 / B) = y at ih h1 ⊢
    grind
theorem nv_shift {B : Int} {f : Nat → Int} (d : Nat) (h0 : ∀ i, i < d → f i = 0) (n : Nat) : nv B f (d + n) = B ^ d * nv B (fun i => f (d + i)) n := by
  rw [nv_split d n]
  have : nv B f d = 0 := by
    have := nv_zeros (B := B) (f := f) (m := 0) (n := d) (Nat.zero_le _) (fun i _ h2 => h0 i h2)
    exact this
  rw [this]; omega
theorem i_or2 {x t : Int} (b : Nat) (hx : 0 ≤ x) (ht : 0 ≤ t ∧ t < 2 ^ b) (hb : b ≤ 31) : Int32.ofInt (x * 2 ^ b) ||| Int32.ofInt t = Int32.ofInt (x * 2 ^ b + t) := by
  obtain ⟨m, rfl⟩ := Int.eq_ofNat_of_zero_le hx
  obtain ⟨k, rfl⟩ := Int.eq_ofNat_of_zero_le ht.1
  have e0 : ((2 : Int) ^ b) = ((2 ^ b : Nat) : Int) := by simp
  have e1 : (m : Int) * 2 ^ b = ((m * 2 ^ b : Nat) : Int) := by simp
  have e2 : (m : Int) * 2 ^ b + (k : Int) = ((m * 2 ^ b + k : Nat) : Int) := by simp
  have hk : k < 2 ^ b := by have := ht.2; rw [e0] at this; omega
  rw [e2, e1]
  apply Int32.toBitVec_inj.mp
  show BitVec.ofInt 32 _ ||| BitVec.ofInt 32 _ = BitVec.ofInt 32 _
  rw [BitVec.ofInt_natCast, BitVec.ofInt_natCast, BitVec.ofInt_natCast, ← BitVec.ofNat_or]
  congr 1
  rw [Nat.mul_comm m]
  exact (Nat.two_pow_add_eq_or_of_lt hk m).symm
theorem i_shl {x : Int} (s : Nat) (hs : s < 32) : Int32.ofInt x <<< (Int32.ofInt (s : Int) &&& 31) = Int32.ofInt (x * 2 ^ s) := by
  apply Int32.toBitVec_inj.mp
  rw [Int32.toBitVec_shiftLeft]
  have hD : ((Int32.ofInt (s : Int) &&& 31).toBitVec.smod 32).toNat = s := by
    have : ∀ s : Nat, s < 32 → ((Int32.ofInt (s : Int) &&& 31).toBitVec.smod 32).toNat = s := by decide +kernel
    exact this s hs
  show BitVec.ofInt 32 x <<< ((Int32.ofInt (s : Int) &&& 31).toBitVec.smod 32) = BitVec.ofInt 32 (x * 2 ^ s)
  rw [BitVec.shiftLeft_eq', hD, BitVec.shiftLeft_eq_mul_twoPow, BitVec.ofInt_mul]
  congr 1
  apply BitVec.eq_of_toNat_eq
  rw [BitVec.toNat_twoPow, BitVec.toNat_ofInt]
  have : (2 : Int) ^ s = ((2 ^ s : Nat) : Int) := by simp
  rw [this]
  have h2 : ((2 ^ 32 : Nat) : Int) = ((2 ^ 32 : Nat) : Int) := rfl
  rw [← Int.natCast_emod, Int.toNat_natCast]
theorem shd28 : ∀ s : Nat, s < 32 → ((Int32.ofInt (s : Int)).toUInt32 &&& Int32.toUInt32 31).toBitVec.toNat % 32 = s := by decide +kernel
