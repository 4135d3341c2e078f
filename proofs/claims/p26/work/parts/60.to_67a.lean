/-! the class's own numbers: eighteen digits of 28 bits -/
abbrev B28 : Int := 268435456
def DC (f : Nat → Int) : Prop := ∀ i, i < 18 → 0 ≤ f i ∧ f i < B28
def Wr (f : Nat → Int) (u : Nat) : Prop := DC f ∧ u ≤ 18 ∧ (∀ i, u ≤ i → i < 18 → f i = 0) ∧ (0 < u → f (u - 1) ≠ 0)
def V18 (f : Nat → Int) : Int := nv B28 f 18
def WN (f : Nat → Int) (u : Nat) (bl z : Int) : Prop := Wr f u ∧ (bl = 1 ∧ 0 < u ∧ z = -V18 f ∨ bl = 0 ∧ z = V18 f)
def oW (r u : Nat) (bl : Int) : Ent := eO 7 [.ref r, iI (u : Int), iI bl]
def WA (w : Wd) (a r : Nat) (z : Int) : Prop := ∃ (f : Nat → Int) (u : Nat) (bl : Int), w.2 a = some (true, oW r u bl) ∧ w.2 r = some (true, eI 18 f) ∧ WN f u bl z
def FrW (w w' : Wd) (a r : Nat) : Prop := w'.1 = w.1 ∧ ∀ b, b ≠ a → b ≠ r → w'.2 b = w.2 b
def FrA (w w' : Wd) (a : Nat) : Prop := w'.1 = w.1 ∧ ∀ b, b ≠ a → w'.2 b = w.2 b
theorem FrA.w {w u : Wd} {a : Nat} (h : FrA w u a) (r : Nat) : FrW w u a r := ⟨h.1, fun b h1 _ => h.2 b h1⟩
theorem FrW.rf (w : Wd) (a r : Nat) : FrW w w a r := ⟨rfl, fun _ _ _ => rfl⟩
theorem FrA.rf (w : Wd) (a : Nat) : FrA w w a := ⟨rfl, fun _ _ => rfl⟩
theorem FrW.tr {w u x : Wd} {a r : Nat} (h : FrW w u a r) (g : FrW u x a r) : FrW w x a r := ⟨g.1.trans h.1, fun b h1 h2 => (g.2 b h1 h2).trans (h.2 b h1 h2)⟩
theorem FrW.set {w u : Wd} {a r b : Nat} (h : FrW w u a r) (hb : b = a ∨ b = r) (e : WdE) : FrW w (wset u b e) a r := ⟨h.1, fun c h1 h2 => by rw [wset_n (by omega)]; exact h.2 c h1 h2⟩
theorem FrA.set {w u : Wd} {a : Nat} (h : FrA w u a) (e : WdE) : FrA w (wset u a e) a := ⟨h.1, fun c h1 => by rw [wset_n h1]; exact h.2 c h1⟩
theorem WA.ne {w : Wd} {a r b s : Nat} {x y : Int} (h : WA w a r x) (g : WA w b s y) : a ≠ s ∧ a ≠ r := by
  obtain ⟨f, u, bl, h1, h2, -⟩ := h
  obtain ⟨f2, u2, bl2, g1, g2, -⟩ := g
  constructor
  · intro e; rw [e, g2] at h1; simp [oW] at h1
  · intro e; rw [e, h2] at h1; simp [oW] at h1
theorem WA.fr {w u : Wd} {a r b s : Nat} {z : Int} (h : WA w a r z) (g : FrW w u b s) (h1 : a ≠ b) (h2 : r ≠ s) (h3 : a ≠ s) (h4 : r ≠ b) : WA u a r z := by
  obtain ⟨f, uu, bl, e1, e2, e3⟩ := h
  exact ⟨f, uu, bl, by rw [g.2 a h1 h3]; exact e1, by rw [g.2 r h4 h2]; exact e2, e3⟩
theorem DC.dg {f : Nat → Int} (h : DC f) {n : Nat} (hn : n ≤ 18) : dg B28 f n := fun i hi => h i (by omega)
theorem V18_0 {f : Nat → Int} (h : DC f) : 0 ≤ V18 f := nv_nonneg (by decide) (h.dg (Nat.le_refl _))
theorem Wr.val {f : Nat → Int} {u : Nat} (h : Wr f u) : V18 f = nv B28 f u := nv_zeros h.2.1 h.2.2.1
theorem Wr.pos {f : Nat → Int} {u : Nat} (h : Wr f u) (hu : 0 < u) : 0 < V18 f := by
  obtain ⟨k, rfl⟩ : ∃ k, u = k + 1 := ⟨u - 1, by omega⟩
  have h4 := h.2.2.2 hu
  rw [Nat.add_sub_cancel] at h4
  have := nv_top (B := B28) (f := f) (n := k) (by decide) (h.1.dg h.2.1) h4
  rw [← h.val] at this
  have := pw_pos (B := B28) (by decide) k
  omega
theorem Wr.zero {f : Nat → Int} {u : Nat} (h : Wr f u) : V18 f = 0 ↔ u = 0 := by
  constructor
  · intro q
    rcases Nat.eq_zero_or_pos u with c | c
    · exact c
    · have := h.pos c; omega
  · intro q
    rw [h.val, q]; rfl
theorem WN.ab {f : Nat → Int} {u : Nat} {bl z : Int} (h : WN f u bl z) : aB z = V18 f ∧ (bl = 1 ∧ z < 0 ∨ bl = 0 ∧ 0 ≤ z) ∧ (u = 0 ↔ z = 0) := by
  obtain ⟨hw, h⟩ := h
  have h0 := V18_0 hw.1
  have hz := hw.zero
  rcases h with ⟨c1, c2, c3⟩ | ⟨c1, c2⟩
  · have := hw.pos c2
    refine ⟨by unfold aB; split <;> omega, Or.inl ⟨c1, by omega⟩, ⟨fun q => by omega, fun q => by omega⟩⟩
  · refine ⟨by unfold aB; split <;> omega, Or.inr ⟨c1, by omega⟩, ⟨fun q => by rw [c2]; exact hz.mpr q, fun q => by rw [c2] at q; exact hz.mp q⟩⟩
theorem Wr.uniq {f : Nat → Int} {u v : Nat} (h : Wr f u) (g : Wr f v) : u = v := by
  rcases Nat.lt_trichotomy u v with q | q | q
  · have := g.2.2.2 (by omega); have := h.2.2.1 (v - 1) (by omega) (by have := g.2.1; omega); omega
  · exact q
  · have := h.2.2.2 (by omega); have := g.2.2.1 (u - 1) (by omega) (by have := h.2.1; omega); omega
theorem j_ushr {x : Int} (s : Nat) (hs : s < 64) (hx : 0 ≤ x ∧ x < 9223372036854775808) {D : UInt64} (hD : D.toBitVec.toNat % 64 = s) : ((Int64.ofInt x).toUInt64 >>> D).toInt64 = Int64.ofInt (x / 2 ^ s) := by
  obtain ⟨k, rfl⟩ := Int.eq_ofNat_of_zero_le hx.1
  have hk : k < 2 ^ 64 := by omega
  have e0 : (Int64.ofInt (k : Int)).toUInt64 = UInt64.ofNat k := by
    apply UInt64.toBitVec_inj.mp
    show BitVec.ofInt 64 (k : Int) = _
    rw [BitVec.ofInt_natCast]; rfl
  have e1 : (UInt64.ofNat k >>> D) = UInt64.ofNat (k / 2 ^ s) := by
    apply UInt64.toNat_inj.mp
    rw [UInt64.toNat_shiftRight, UInt64.toNat_ofNat_of_lt' hk, UInt64.toNat_ofNat_of_lt' (Nat.lt_of_le_of_lt (Nat.div_le_self _ _) hk), Nat.shiftRight_eq_div_pow]
    congr 2
  rw [e0, e1]
  have e2 : (k : Int) / 2 ^ s = ((k / 2 ^ s : Nat) : Int) := by simp
  rw [e2]
  apply Int64.toBitVec_inj.mp
  show (UInt64.ofNat (k / 2 ^ s)).toBitVec = BitVec.ofInt 64 _
  rw [BitVec.ofInt_natCast]; rfl
theorem i_ushr {x : Int} (s : Nat) (hs : s < 32) (hx : 0 ≤ x ∧ x < 2147483648) {D : UInt32} (hD : D.toBitVec.toNat % 32 = s) : ((Int32.ofInt x).toUInt32 >>> D).toInt32 = Int32.ofInt (x / 2 ^ s) := by
  obtain ⟨k, rfl⟩ := Int.eq_ofNat_of_zero_le hx.1
  have hk : k < 2 ^ 32 := by omega
  have e0 : (Int32.ofInt (k : Int)).toUInt32 = UInt32.ofNat k := by
    apply UInt32.toBitVec_inj.mp
    show BitVec.ofInt 32 (k : Int) = _
    rw [BitVec.ofInt_natCast]; rfl
  have e1 : (UInt32.ofNat k >>> D) = UInt32.ofNat (k / 2 ^ s) := by
    apply UInt32.toNat_inj.mp
    rw [UInt32.toNat_shiftRight, UInt32.toNat_ofNat_of_lt' hk, UInt32.toNat_ofNat_of_lt' (Nat.lt_of_le_of_lt (Nat.div_le_self _ _) hk), Nat.shiftRight_eq_div_pow]
    congr 2
  rw [e0, e1]
  have e2 : (k : Int) / 2 ^ s = ((k / 2 ^ s : Nat) : Int) := by simp
  rw [e2]
  apply Int32.toBitVec_inj.mp
  show (UInt32.ofNat (k / 2 ^ s)).toBitVec = BitVec.ofInt 32 _
  rw [BitVec.ofInt_natCast]; rfl
theorem B28p : (2 : Int) ^ 28 = B28 := by decide
theorem mask28 : (268435455 : Int) = 2 ^ 28 - 1 := by decide
theorem nv_iup28 {f : Nat → Int} {n k : Nat} {x : Int} (h : n ≤ k) : nv B28 (iup f k x) n = nv B28 f n := nv_iup_hi h
def RA (w : Wd) (a r : Nat) (f : Nat → Int) (u : Nat) (bl : Int) : Prop := w.2 a = some (true, oW r u bl) ∧ w.2 r = some (true, eI 18 f) ∧ Wr f u ∧ (bl = 0 ∨ bl = 1)
theorem WA.ra {w : Wd} {a r : Nat} {z : Int} (h : WA w a r z) : ∃ f u bl, RA w a r f u bl ∧ WN f u bl z := by
  obtain ⟨f, u, bl, h1, h2, h3⟩ := h
  exact ⟨f, u, bl, ⟨h1, h2, h3.1, by have := h3.ab.2.1; omega⟩, h3⟩
theorem RA.ne {w : Wd} {a r : Nat} {f : Nat → Int} {u : Nat} {bl : Int} (h : RA w a r f u bl) : a ≠ r := by
  obtain ⟨h1, h2, -⟩ := h
  intro e; rw [e, h2] at h1; simp [oW] at h1
theorem RA.ne2 {w : Wd} {a r b s : Nat} {f g : Nat → Int} {u v : Nat} {bl bm : Int} (h : RA w a r f u bl) (k : RA w b s g v bm) : a ≠ s := by
  obtain ⟨h1, -⟩ := h
  obtain ⟨-, k2, -⟩ := k
  intro e; rw [e, k2] at h1; simp [oW] at h1
theorem RA.wa {w : Wd} {a r : Nat} {f : Nat → Int} {u : Nat} {bl : Int} (h : RA w a r f u (if 0 < u then bl else 0)) (hb : bl = 0 ∨ bl = 1) : WA w a r (if bl = 1 then -V18 f else V18 f) := by
  obtain ⟨h1, h2, h3, -⟩ := h
  refine ⟨f, u, _, h1, h2, h3, ?_⟩
  rcases Nat.eq_zero_or_pos u with c | c
  · have hz : V18 f = 0 := h3.zero.mpr c
    rw [if_neg (by omega), hz]
    exact Or.inr ⟨rfl, by split <;> omega⟩
  · rw [if_pos c]
    rcases hb with q | q
    · rw [q, if_neg (by decide)]; exact Or.inr ⟨rfl, rfl⟩
    · rw [q, if_pos rfl]; exact Or.inl ⟨rfl, c, rfl⟩
theorem mx18 {u v : Nat} (hu : u ≤ 18) (hv : v ≤ 18) : ∃ q : Nat, u ≤ q ∧ v ≤ q ∧ q ≤ 18 ∧ (q = u ∨ q = v) ∧ (if (u : Int) < (v : Int) then (v : Int) else (u : Int)) = (q : Int) ∧ (if (q : Int) < 18 then (q : Int) else 18) = (q : Int) := by
  refine ⟨if u < v then v else u, ?_, ?_, ?_, ?_, ?_, ?_⟩
  · split <;> omega
  · split <;> omega
  · split <;> omega
  · split <;> omega
  · split <;> split <;> omega
  · split <;> split <;> omega
theorem mn18 (q : Nat) : ∃ e : Nat, e ≤ 18 ∧ (e = q ∧ q < 18 ∨ e = 18 ∧ 18 ≤ q) ∧ (if (q : Int) < 18 then (q : Int) else 18) = (e : Int) := by
  refine ⟨if q < 18 then q else 18, ?_, ?_, ?_⟩
  · split <;> omega
  · split <;> omega
  · split <;> split <;> omega
theorem pw28_le {a b : Nat} (h : a ≤ b) : B28 ^ a ≤ B28 ^ b := by
  have e : b = a + (b - a) := by omega
  rw [e, Int.pow_add]
  have h1 : (1 : Int) ≤ B28 ^ (b - a) := pw_pos (by decide) _
  have h2 := Int.mul_le_mul_of_nonneg_left h1 (Int.le_of_lt (pw_pos (B := B28) (by decide) a))
  omega
theorem Wr.lt {f : Nat → Int} {u : Nat} (h : Wr f u) : V18 f < B28 ^ u := by rw [h.val]; exact nv_lt (by decide) (h.1.dg h.2.1)
theorem Wr.ge {f : Nat → Int} {u : Nat} (h : Wr f (u + 1)) : B28 ^ u ≤ V18 f := by
  rw [h.val]
  exact nv_top (by decide) (h.1.dg h.2.1) (by have := h.2.2.2 (Nat.succ_pos u); rwa [Nat.add_sub_cancel] at this)
theorem Wr.len {f g : Nat → Int} {u v : Nat} (h : Wr f u) (k : Wr g v) (hle : V18 g ≤ V18 f) : v ≤ u := by
  rcases Nat.lt_or_ge u v with q | q
  · obtain ⟨t, rfl⟩ : ∃ t, v = t + 1 := ⟨v - 1, by omega⟩
    have := k.ge; have := h.lt; have := pw28_le (a := u) (b := t) (by omega); omega
  · exact q
theorem Wr.cap {f : Nat → Int} {u k : Nat} (h : Wr f u) (hk : V18 f < B28 ^ k) : u ≤ k := by
  rcases Nat.lt_or_ge k u with q | q
  · obtain ⟨t, rfl⟩ : ∃ t, u = t + 1 := ⟨u - 1, by omega⟩
    have := h.ge; have := pw28_le (a := k) (b := t) (by omega); omega
  · exact q
theorem sm_step {B : Int} {h g : Nat → Int} {t : Nat} {a c s m : Int} (e : nv B h t + c * B ^ t = a * nv B g t + m) (hs : s = c + g t * a) : nv B (iup h t (s % B)) (t + 1) + s / B * B ^ (t + 1) = a * nv B g (t + 1) + m := by
  rw [nv_up_succ, nv_succ, Int.pow_succ]
  have e2 : s = B * (s / B) + s % B := (Int.mul_ediv_add_emod s B).symm
  generalize s / B = q at e2 ⊢
  generalize s % B = r at e2 ⊢
  grind
theorem DC.up {f : Nat → Int} (h : DC f) (k : Nat) {x : Int} (hx : 0 ≤ x ∧ x < B28) : DC (iup f k x) := by
  intro i hi
  by_cases q : i = k
  · rw [q, iup_s]; exact hx
  · rw [iup_n q]; exact h i hi
theorem mod28 (x : Int) : 0 ≤ x % B28 ∧ x % B28 < B28 := ⟨Int.emod_nonneg _ (by decide), Int.emod_lt_of_pos _ (by decide)⟩
theorem hv_lo {B : Int} (hB : 0 < B) {f : Nat → Int} {n : Nat} (hd : dg B f n) : ∀ {j : Nat}, j ≤ n → 0 ≤ hv B f n j
  | 0, _ => Int.le_refl _
  | j + 1, h => by
    have h1 := hv_lo hB hd (j := j) (by omega)
    have h2 := hd (n - 1 - j) (by omega)
    have := Int.mul_nonneg h1 (Int.le_of_lt hB)
    show 0 ≤ hv B f n j * B + f (n - 1 - j)
    omega
theorem shl_step {B p : Int} {f h : Nat → Int} {b2 : Int} : ∀ {n : Nat}, (∀ i, i < n → h i = (f i * b2) % B + (if i = 0 then p else f (i - 1) * b2 / B)) → nv B h n + (if n = 0 then p else f (n - 1) * b2 / B) * B ^ n = nv B f n * b2 + p
  | 0, _ => by show (0 : Int) + p * B ^ 0 = 0 * b2 + p; rw [Int.pow_zero]; omega
  | n + 1, hh => by
    have ih := shl_step (n := n) (fun i hi => hh i (by omega))
    have h1 := hh n (by omega)
    rw [nv_succ, nv_succ, if_neg (by omega), Nat.add_sub_cancel, h1, Int.pow_succ]
    have e : f n * b2 = B * (f n * b2 / B) + f n * b2 % B := (Int.mul_ediv_add_emod _ _).symm
    generalize hq : f n * b2 / B = q at e ⊢
    generalize hr : f n * b2 % B = r at e ⊢
    generalize (if n = 0 then p else f (n - 1) * b2 / B) = y at ih h1 ⊢
    grind
theorem nv_shift {B : Int} {f : Nat → Int} (d : Nat) (h0 : ∀ i, i < d → f i = 0) (n : Nat) : nv B f (d + n) = B ^ d * nv B (fun i => f (d + i)) n := by
  rw [nv_split d n]
  have : nv B f d = 0 := by
    have := nv_zeros (B := B) (f := f) (m := 0) (n := d) (Nat.zero_le _) (fun i _ h2 => h0 i h2)
    exact this
  rw [this]; omega
theorem i_or2 {x t : Int} (b : Nat) (hx : 0 ≤ x) (ht : 0 ≤ t ∧ t < 2 ^ b) (hb : b ≤ 31) : Int32.ofInt (x * 2 ^ b) ||| Int32.ofInt t = Int32.ofInt (x * 2 ^ b + t) := by
  obtain ⟨m, rfl⟩ := Int.eq_ofNat_of_zero_le hx
  obtain ⟨k, rfl⟩ := Int.eq_ofNat_of_zero_le ht.1
  have e0 : ((2 : Int) ^ b) = ((2 ^ b : Nat) : Int) := by simp
  have e1 : (m : Int) * 2 ^ b = ((m * 2 ^ b : Nat) : Int) := by simp
  have e2 : (m : Int) * 2 ^ b + (k : Int) = ((m * 2 ^ b + k : Nat) : Int) := by simp
  have hk : k < 2 ^ b := by have := ht.2; rw [e0] at this; omega
  rw [e2, e1]
  apply Int32.toBitVec_inj.mp
  show BitVec.ofInt 32 _ ||| BitVec.ofInt 32 _ = BitVec.ofInt 32 _
  rw [BitVec.ofInt_natCast, BitVec.ofInt_natCast, BitVec.ofInt_natCast, ← BitVec.ofNat_or]
  congr 1
  rw [Nat.mul_comm m]
  exact (Nat.two_pow_add_eq_or_of_lt hk m).symm
theorem i_shl {x : Int} (s : Nat) (hs : s < 32) : Int32.ofInt x <<< (Int32.ofInt (s : Int) &&& 31) = Int32.ofInt (x * 2 ^ s) := by
  apply Int32.toBitVec_inj.mp
  rw [Int32.toBitVec_shiftLeft]
  have hD : ((Int32.ofInt (s : Int) &&& 31).toBitVec.smod 32).toNat = s := by
    have : ∀ s : Nat, s < 32 → ((Int32.ofInt (s : Int) &&& 31).toBitVec.smod 32).toNat = s := by decide +kernel
    exact this s hs
  show BitVec.ofInt 32 x <<< ((Int32.ofInt (s : Int) &&& 31).toBitVec.smod 32) = BitVec.ofInt 32 (x * 2 ^ s)
  rw [BitVec.shiftLeft_eq', hD, BitVec.shiftLeft_eq_mul_twoPow, BitVec.ofInt_mul]
  congr 1
  apply BitVec.eq_of_toNat_eq
  rw [BitVec.toNat_twoPow, BitVec.toNat_ofInt]
  have : (2 : Int) ^ s = ((2 ^ s : Nat) : Int) := by simp
  rw [this]
  have h2 : ((2 ^ 32 : Nat) : Int) = ((2 ^ 32 : Nat) : Int) := rfl
  rw [← Int.natCast_emod, Int.toNat_natCast]
theorem shd28 : ∀ s : Nat, s < 32 → ((Int32.ofInt (s : Int)).toUInt32 &&& Int32.toUInt32 31).toBitVec.toNat % 32 = s := by decide +kernel
set_option maxHeartbeats 4000000 in
set_option maxRecDepth 100000 in
theorem c_J7_fill_53178 (l : Launch) {E : GE} {w : Wd} {a n : Nat} {f : Nat → Int} {x : Int} (ha : w.2 a = some (true, eI n f)) (hn : n ≤ 1000000) : Sp E l yJ7_fill_53178 cJ7_fill_53178 4 none 0 (0) (0) [.ref a, iI x] w (fun r w' => r = none ∧ ∃ g, w' = wset w a (true, eI n g) ∧ ∀ i, i < n → g i = x) := by
  refine sp_intro [some (.ref a), some (iI x), none, none] rfl (Nat.le_of_ble_eq_true rfl) pn_J7 ?_
  intro X C hRm hl hnm hQ
  obtain ⟨hRf, hRl, hRc, hRs⟩ := hRm
  refine g_wf (fun hwf => ?_)
  refine g_iconst C dJ7_fill_53178_0 ?_
  refine g_istore_n C dJ7_fill_53178_1 (by decide) rfl ?_
  refine g_aload_n C dJ7_fill_53178_2 rfl ?_
  refine g_alen C ha (Or.inl ⟨_, rfl⟩) dJ7_fill_53178_3 ?_
  refine g_istore_n C dJ7_fill_53178_4 (by decide) rfl ?_
  suffices hh : G E X 4 5 [some (.ref a), some (iI x), some (iI ((0 : Nat) : Int)), some (iI (n : Int))] [] (wset w a (true, eI n f)) 0 0 by rw [wset_id ha] at hh; exact hh
  refine g_loop (σ := Nat × (Nat → Int)) (fun s => s.1 ≤ n ∧ ∀ i, i < s.1 → s.2 i = x) (fun s => G E X 4 5 [some (.ref a), some (iI x), some (iI (s.1 : Int)), some (iI (n : Int))] [] (wset w a (true, eI n s.2)) 0 0) (fun s => n - s.1) ?_ (0, f) ⟨by dsimp only; omega, fun i hi => absurd hi (Nat.not_lt_zero i)⟩
  rintro ⟨j, g⟩ hq ih
  obtain ⟨hj, hg⟩ := hq
  dsimp only at hj hg ⊢
  refine g_iload_n C dJ7_fill_53178_5 rfl ?_
  refine g_iload_n C dJ7_fill_53178_6 rfl ?_
  refine g_icmp_ge (tgt := 20) C dJ7_fill_53178_7 (by decide) (by omega) (by omega) (fun h7 => ?_) (fun h7 => ?_)
  · exact g_return C hQ dJ7_fill_53178_20 (Nat.le_refl _) (Nat.le_refl _) ⟨rfl, g, rfl, fun i hi => hg i (by omega)⟩
  · refine g_aload_n C dJ7_fill_53178_10 rfl ?_
    refine g_iload_n C dJ7_fill_53178_11 rfl ?_
    refine g_iload_n C dJ7_fill_53178_12 rfl ?_
    refine g_iastoreN (j) C wset_s rfl (by omega) dJ7_fill_53178_13 ?_
    rw [wset_set]
    refine g_iinc C dJ7_fill_53178_14 rfl (by decide) rfl ?_
    refine g_goto (tgt := 5) C dJ7_fill_53178_17 (by decide) ?_
    exact ih (j + 1, iup g j x) ⟨by dsimp only; omega, fun i hi => by
      dsimp only at hi ⊢
      by_cases q : i = j
      · rw [q, iup_s]
      · rw [iup_n q]; exact hg i (by omega)⟩ (by dsimp only; omega)
set_option maxHeartbeats 4000000 in
set_option maxRecDepth 100000 in
theorem c_X5_isBelow (l : Launch) {E : GE} {w : Wd} {a r : Nat} {z : Int} (hW : WA w a r z) : Sp E l yX5_isBelow cX5_isBelow 1 (some .boolean) 0 (0) (0) [.ref a] w (fun r' w' => r' = some (iI (bI (z < 0))) ∧ w' = w) := by
  refine sp_intro [some (.ref a)] rfl (Nat.le_of_ble_eq_true rfl) pn_X5 ?_
  intro X C hRm hl hnm hQ
  obtain ⟨hRf, hRl, hRc, hRs⟩ := hRm
  refine g_wf (fun hwf => ?_)
  have hB28 : B28 = 268435456 := rfl
  obtain ⟨f, u, bl, hO, hR, hN⟩ := hW
  have hab := hN.ab
  have hu18 := hN.1.2.1
  have hbl := hab.2.1
  refine g_aload_n C dX5_isBelow_0 rfl ?_
  refine g_get (ci := 7) C rfl inTX5 2 (by decide) fl_RX5_13 rfl hO rfl dX5_isBelow_1 ?_
  exact g_zreturn C hQ dX5_isBelow_4 (nar01 (by omega)) (Nat.le_refl _) (Nat.le_refl _) ⟨by rcases hbl with ⟨q1, q2⟩ | ⟨q1, q2⟩; (rw [q1, bI_t q2]); (rw [q1, bI_f (by omega)]), rfl⟩
set_option maxHeartbeats 4000000 in
set_option maxRecDepth 100000 in
theorem c_X5_isZero (l : Launch) {E : GE} {w : Wd} {a r : Nat} {z : Int} (hW : WA w a r z) : Sp E l yX5_isZero cX5_isZero 1 (some .boolean) 0 (0) (0) [.ref a] w (fun r' w' => r' = some (iI (bI (z = 0))) ∧ w' = w) := by
  refine sp_intro [some (.ref a)] rfl (Nat.le_of_ble_eq_true rfl) pn_X5 ?_
  intro X C hRm hl hnm hQ
  obtain ⟨hRf, hRl, hRc, hRs⟩ := hRm
  refine g_wf (fun hwf => ?_)
  have hB28 : B28 = 268435456 := rfl
  obtain ⟨f, u, bl, hO, hR, hN⟩ := hW
  have hab := hN.ab
  have hu18 := hN.1.2.1
  have hbl := hab.2.1
  refine g_aload_n C dX5_isZero_0 rfl ?_
  refine g_get (ci := 7) C rfl inTX5 1 (by decide) fl_RX5_17 rfl hO rfl dX5_isZero_1 ?_
  refine g_if_ne (tgt := 11) C dX5_isZero_4 (by decide) (by omega) (fun h4 => ?_) (fun h4 => ?_)
  · refine g_iconst C dX5_isZero_11 ?_
    exact g_zreturn C hQ dX5_isZero_12 (nar01 (by omega)) (Nat.le_refl _) (Nat.le_refl _) ⟨by first | rw [bI_t (hab.2.2.mp (by omega))] | rw [bI_f (fun q => by have := hab.2.2.mpr q; omega)], rfl⟩
  · refine g_iconst C dX5_isZero_7 ?_
    refine g_goto (tgt := 12) C dX5_isZero_8 (by decide) ?_
    exact g_zreturn C hQ dX5_isZero_12 (nar01 (by omega)) (Nat.le_refl _) (Nat.le_refl _) ⟨by first | rw [bI_t (hab.2.2.mp (by omega))] | rw [bI_f (fun q => by have := hab.2.2.mpr q; omega)], rfl⟩
set_option maxHeartbeats 4000000 in
set_option maxRecDepth 100000 in
theorem c_X5_isNumber (l : Launch) {E : GE} {w : Wd} {a r : Nat} {z : Int} (hW : WA w a r z) {v : Int} (hv : -268435456 < v ∧ v < 268435456) : Sp E l yX5_isNumber cX5_isNumber 2 (some .boolean) 0 (0) (0) [.ref a, iI v] w (fun r' w' => r' = some (iI (bI (z = v))) ∧ w' = w) := by
  refine sp_intro [some (.ref a), some (iI v)] rfl (Nat.le_of_ble_eq_true rfl) pn_X5 ?_
  intro X C hRm hl hnm hQ
  obtain ⟨hRf, hRl, hRc, hRs⟩ := hRm
  refine g_wf (fun hwf => ?_)
  have hB28 : B28 = 268435456 := rfl
  obtain ⟨f, u, bl, hO, hR, hN⟩ := hW
  have hab := hN.ab
  have hu18 := hN.1.2.1
  have hbl := hab.2.1
  have h00 := hN.1.1 0 (by omega)
  have hval := hN.1.val
  have hsm : u ≤ 1 → V18 f = f 0 := by
    intro q
    have hq : u = 0 ∨ u = 1 := by omega
    rcases hq with q1 | q1
    · rw [hval, q1, hN.1.2.2.1 0 (by omega) (by omega)]; rfl
    · rw [hval, q1]
      show (0 : Int) + f 0 * B28 ^ 0 = f 0
      rw [Int.pow_zero]; omega
  have hbig : 1 < u → 268435456 ≤ V18 f := by
    intro q
    obtain ⟨k, rfl⟩ : ∃ k, u = k + 2 := ⟨u - 2, by omega⟩
    have ht := hN.1.2.2.2 (by omega)
    have := nv_top (B := B28) (f := f) (n := k + 1) (by decide) (hN.1.1.dg hu18) ht
    rw [← hval, Int.pow_succ] at this
    have p := pw_pos (B := B28) (by decide) k
    have : (1 : Int) * B28 ≤ B28 ^ k * B28 := Int.mul_le_mul_of_nonneg_right (by omega) (by decide)
    omega
  have hz2 : z = V18 f ∨ z = - V18 f := by have := hab.1; unfold aB at this; split at this <;> omega
  refine g_aload_n C dX5_isNumber_0 rfl ?_
  refine g_get (ci := 7) C rfl inTX5 1 (by decide) fl_RX5_17 rfl hO rfl dX5_isNumber_1 ?_
  refine g_iconst C dX5_isNumber_4 ?_
  refine g_icmp_gt (tgt := 39) C dX5_isNumber_5 (by decide) (by omega) (by omega) (fun h5 => ?_) (fun h5 => ?_)
  · refine g_iconst C dX5_isNumber_39 ?_
    exact g_zreturn C hQ dX5_isNumber_40 (nar01 (by omega)) (Nat.le_refl _) (Nat.le_refl _) ⟨by
      first
      | (have e9 := hbig (by omega); rw [bI_f (fun q => by omega)])
      | (have e9 := hsm (by omega); rw [bI_t (by omega)])
      | (have e9 := hsm (by omega); rw [bI_f (fun q => by omega)]), rfl⟩
  · refine g_aload_n C dX5_isNumber_8 rfl ?_
    refine g_get (ci := 7) C rfl inTX5 2 (by decide) fl_RX5_13 rfl hO rfl dX5_isNumber_9 ?_
    refine g_if_eq (tgt := 25) C dX5_isNumber_12 (by decide) (by omega) (fun h12 => ?_) (fun h12 => ?_)
    · refine g_aload_n C dX5_isNumber_25 rfl ?_
      refine g_get (ci := 7) C rfl inTX5 0 (by decide) fl_RX5_9 rfl hO rfl dX5_isNumber_26 ?_
      refine g_iconst C dX5_isNumber_29 ?_
      refine g_ialoadN (0) C hR (by omega) (by omega) dX5_isNumber_30 ?_
      refine g_iload_n C dX5_isNumber_31 rfl ?_
      refine g_icmp_ne (tgt := 39) C dX5_isNumber_32 (by decide) (by omega) (by omega) (fun h32 => ?_) (fun h32 => ?_)
      · refine g_iconst C dX5_isNumber_39 ?_
        exact g_zreturn C hQ dX5_isNumber_40 (nar01 (by omega)) (Nat.le_refl _) (Nat.le_refl _) ⟨by
          first
          | (have e9 := hbig (by omega); rw [bI_f (fun q => by omega)])
          | (have e9 := hsm (by omega); rw [bI_t (by omega)])
          | (have e9 := hsm (by omega); rw [bI_f (fun q => by omega)]), rfl⟩
      · refine g_iconst C dX5_isNumber_35 ?_
        refine g_goto (tgt := 40) C dX5_isNumber_36 (by decide) ?_
        exact g_zreturn C hQ dX5_isNumber_40 (nar01 (by omega)) (Nat.le_refl _) (Nat.le_refl _) ⟨by
          first
          | (have e9 := hbig (by omega); rw [bI_f (fun q => by omega)])
          | (have e9 := hsm (by omega); rw [bI_t (by omega)])
          | (have e9 := hsm (by omega); rw [bI_f (fun q => by omega)]), rfl⟩
    · refine g_aload_n C dX5_isNumber_15 rfl ?_
      refine g_get (ci := 7) C rfl inTX5 0 (by decide) fl_RX5_9 rfl hO rfl dX5_isNumber_16 ?_
      refine g_iconst C dX5_isNumber_19 ?_
      refine g_ialoadN (0) C hR (by omega) (by omega) dX5_isNumber_20 ?_
      refine g_ineg C dX5_isNumber_21 ?_
      refine g_goto (tgt := 31) C dX5_isNumber_22 (by decide) ?_
      refine g_iload_n C dX5_isNumber_31 rfl ?_
      refine g_icmp_ne (tgt := 39) C dX5_isNumber_32 (by decide) (by omega) (by omega) (fun h32 => ?_) (fun h32 => ?_)
      · refine g_iconst C dX5_isNumber_39 ?_
        exact g_zreturn C hQ dX5_isNumber_40 (nar01 (by omega)) (Nat.le_refl _) (Nat.le_refl _) ⟨by
          first
          | (have e9 := hbig (by omega); rw [bI_f (fun q => by omega)])
          | (have e9 := hsm (by omega); rw [bI_t (by omega)])
          | (have e9 := hsm (by omega); rw [bI_f (fun q => by omega)]), rfl⟩
      · refine g_iconst C dX5_isNumber_35 ?_
        refine g_goto (tgt := 40) C dX5_isNumber_36 (by decide) ?_
        exact g_zreturn C hQ dX5_isNumber_40 (nar01 (by omega)) (Nat.le_refl _) (Nat.le_refl _) ⟨by
          first
          | (have e9 := hbig (by omega); rw [bI_f (fun q => by omega)])
          | (have e9 := hsm (by omega); rw [bI_t (by omega)])
          | (have e9 := hsm (by omega); rw [bI_f (fun q => by omega)]), rfl⟩
set_option maxHeartbeats 4000000 in
set_option maxRecDepth 100000 in
theorem c_X5_isOne (l : Launch) {E : GE} {w : Wd} {a r : Nat} {z : Int} (hW : WA w a r z) : Sp E l yX5_isOne cX5_isOne 1 (some .boolean) 1 (0) (0) [.ref a] w (fun r' w' => r' = some (iI (bI (z = 1))) ∧ w' = w) := by
  refine sp_intro [some (.ref a)] rfl (Nat.le_of_ble_eq_true rfl) pn_X5 ?_
  intro X C hRm hl hnm hQ
  obtain ⟨hRf, hRl, hRc, hRs⟩ := hRm
  refine g_wf (fun hwf => ?_)
  have hW0 := hW
  have hB28 : B28 = 268435456 := rfl
  obtain ⟨f, u, bl, hO, hR, hN⟩ := hW
  have hab := hN.ab
  have hu18 := hN.1.2.1
  have hbl := hab.2.1
  refine g_aload_n C dX5_isOne_0 rfl ?_
  refine g_iconst C dX5_isOne_1 ?_
  refine g_callV C (c_X5_isNumber _ hW0 (v := 1) (by omega)) (ci := 7) rfl hO rfl ml_RX5_21 im_yX5_isNumber se_RX5_yX5_isNumber in_RX5 co_yX5_isNumber hd_X5_isNumber rfl ⟨by omega, by omega⟩ rfl (Nat.le_of_ble_eq_true rfl) ⟨by omega, by omega⟩ dX5_isOne_2 (fun v2 w2 hp2 => ?_)
  obtain ⟨rfl, hw2⟩ := hp2
  subst w2
  exact g_zreturn C hQ dX5_isOne_5 (narB) (Nat.le_refl _) (Nat.le_refl _) ⟨rfl, rfl⟩
set_option maxHeartbeats 4000000 in
set_option maxRecDepth 100000 in
theorem c_X5_negate (l : Launch) {E : GE} {w : Wd} {a r : Nat} {z : Int} (hW : WA w a r z) : Sp E l yX5_negate cX5_negate 1 none 0 (0) (0) [.ref a] w (fun r' w' => r' = none ∧ WA w' a r (-z) ∧ FrW w w' a r) := by
  refine sp_intro [some (.ref a)] rfl (Nat.le_of_ble_eq_true rfl) pn_X5 ?_
  intro X C hRm hl hnm hQ
  obtain ⟨hRf, hRl, hRc, hRs⟩ := hRm
  refine g_wf (fun hwf => ?_)
  have hne := hW.ne hW
  have hB28 : B28 = 268435456 := rfl
  obtain ⟨f, u, bl, hO, hR, hN⟩ := hW
  have hab := hN.ab
  have hu18 := hN.1.2.1
  have hbl := hab.2.1
  have J20 : ∀ b : Int, (b = 1 ∧ 0 < z ∨ b = 0 ∧ z ≤ 0) → G E X 1 20 [some (.ref a)] [iI b, .ref a] w 0 0 := by
    intro b hb
    refine g_put (ci := 7) C rfl inTX5 tyX5 tyX5_ok nmX5 2 (by decide) fl_RX5_13 rfl rfl hO (Nat.le_of_ble_eq_true rfl) (by rcases hb with ⟨q, -⟩ | ⟨q, -⟩ <;> (rw [q]; rfl)) (by rcases hb with ⟨q, -⟩ | ⟨q, -⟩ <;> (rw [q]; rfl)) dX5_negate_20 ?_
    exact g_return C hQ dX5_negate_23 (Nat.le_refl _) (Nat.le_refl _) ⟨rfl, ⟨f, u, b, wset_s, by rw [wset_n (Ne.symm hne.2)]; exact hR, hN.1, by
      have h0 := V18_0 hN.1.1
      have h1 := hab.1
      have h2 := hab.2.2
      unfold aB at h1
      rcases hb with ⟨q1, q2⟩ | ⟨q1, q2⟩
      · exact Or.inl ⟨q1, by omega, by split at h1 <;> omega⟩
      · exact Or.inr ⟨q1, by split at h1 <;> omega⟩⟩, (FrW.rf _ _ _).set (Or.inl rfl) _⟩
  refine g_aload_n C dX5_negate_0 rfl ?_
  refine g_aload_n C dX5_negate_1 rfl ?_
  refine g_get (ci := 7) C rfl inTX5 1 (by decide) fl_RX5_17 rfl hO rfl dX5_negate_2 ?_
  refine g_if_le (tgt := 19) C dX5_negate_5 (by decide) (by omega) (fun h5 => ?_) (fun h5 => ?_)
  · refine g_iconst C dX5_negate_19 ?_
    exact J20 _ (by have := hab.2.2; omega)
  · refine g_aload_n C dX5_negate_8 rfl ?_
    refine g_get (ci := 7) C rfl inTX5 2 (by decide) fl_RX5_13 rfl hO rfl dX5_negate_9 ?_
    refine g_if_ne (tgt := 19) C dX5_negate_12 (by decide) (by omega) (fun h12 => ?_) (fun h12 => ?_)
    · refine g_iconst C dX5_negate_19 ?_
      exact J20 _ (by have := hab.2.2; omega)
    · refine g_iconst C dX5_negate_15 ?_
      refine g_goto (tgt := 20) C dX5_negate_16 (by decide) ?_
      exact J20 _ (by have := hab.2.2; omega)
set_option maxHeartbeats 4000000 in
set_option maxRecDepth 100000 in
theorem c_X5_makeSize (l : Launch) {E : GE} {w : Wd} {a r : Nat} {z : Int} (hW : WA w a r z) : Sp E l yX5_makeSize cX5_makeSize 1 none 0 (0) (0) [.ref a] w (fun r' w' => r' = none ∧ WA w' a r (aB z) ∧ FrW w w' a r) := by
  refine sp_intro [some (.ref a)] rfl (Nat.le_of_ble_eq_true rfl) pn_X5 ?_
  intro X C hRm hl hnm hQ
  obtain ⟨hRf, hRl, hRc, hRs⟩ := hRm
  refine g_wf (fun hwf => ?_)
  have hne := hW.ne hW
  have hB28 : B28 = 268435456 := rfl
  obtain ⟨f, u, bl, hO, hR, hN⟩ := hW
  have hab := hN.ab
  have hu18 := hN.1.2.1
  have hbl := hab.2.1
  refine g_aload_n C dX5_makeSize_0 rfl ?_
  refine g_iconst C dX5_makeSize_1 ?_
  refine g_put (ci := 7) C rfl inTX5 tyX5 tyX5_ok nmX5 2 (by decide) fl_RX5_13 rfl rfl hO (Nat.le_of_ble_eq_true rfl) rfl rfl dX5_makeSize_2 ?_
  exact g_return C hQ dX5_makeSize_5 (Nat.le_refl _) (Nat.le_refl _) ⟨rfl, ⟨f, u, 0, wset_s, by rw [wset_n (Ne.symm hne.2)]; exact hR, hN.1, Or.inr ⟨rfl, hab.1⟩⟩, (FrW.rf _ _ _).set (Or.inl rfl) _⟩
set_option maxHeartbeats 4000000 in
set_option maxRecDepth 100000 in
theorem c_X5_clear (l : Launch) {E : GE} {w : Wd} {a r : Nat} {f : Nat → Int} {u bl : Int} (hO : w.2 a = some (true, eO 7 [.ref r, iI u, iI bl])) (hR : w.2 r = some (true, eI 18 f)) : Sp E l yX5_clear cX5_clear 1 none 1 (0) (0) [.ref a] w (fun r' w' => r' = none ∧ ∃ g, w'.2 a = some (true, oW r 0 0) ∧ w'.2 r = some (true, eI 18 g) ∧ (∀ i, i < 18 → g i = 0) ∧ FrW w w' a r) := by
  refine sp_intro [some (.ref a)] rfl (Nat.le_of_ble_eq_true rfl) pn_X5 ?_
  intro X C hRm hl hnm hQ
  obtain ⟨hRf, hRl, hRc, hRs⟩ := hRm
  refine g_wf (fun hwf => ?_)
  have hne : a ≠ r := fun e => by rw [e, hR] at hO; simp at hO
  refine g_aload_n C dX5_clear_0 rfl ?_
  refine g_get (ci := 7) C rfl inTX5 0 (by decide) fl_RX5_9 rfl hO rfl dX5_clear_1 ?_
  refine g_iconst C dX5_clear_4 ?_
  refine g_callS C (c_J7_fill_53178 _ (x := 0) hR (by omega)) ml_RX5_40 sm_yJ7_fill_53178 in_RJ7 co_yJ7_fill_53178 hd_J7_fill_53178 rfl ⟨by omega, by omega⟩ rfl (Nat.le_of_ble_eq_true rfl) ⟨by omega, by omega⟩ dX5_clear_5 (fun v5 w5 hp5 => ?_)
  obtain ⟨rfl, g5, rfl, hg5⟩ := hp5
  refine g_aload_n C dX5_clear_8 rfl ?_
  refine g_iconst C dX5_clear_9 ?_
  refine g_put (ci := 7) C rfl inTX5 tyX5 tyX5_ok nmX5 1 (by decide) fl_RX5_17 rfl rfl (by rw [wset_n hne]; exact hO) (Nat.le_of_ble_eq_true rfl) rfl rfl dX5_clear_10 ?_
  refine g_aload_n C dX5_clear_13 rfl ?_
  refine g_iconst C dX5_clear_14 ?_
  refine g_put (ci := 7) C rfl inTX5 tyX5 tyX5_ok nmX5 2 (by decide) fl_RX5_13 rfl rfl wset_s (Nat.le_of_ble_eq_true rfl) rfl rfl dX5_clear_15 ?_
  exact g_return C hQ dX5_clear_18 (Nat.le_refl _) (Nat.le_refl _) ⟨rfl, g5, wset_s, by rw [wset_n (Ne.symm hne), wset_n (Ne.symm hne)]; exact wset_s, hg5, (((FrW.rf _ _ _).set (Or.inr rfl) _).set (Or.inl rfl) _).set (Or.inl rfl) _⟩
set_option maxHeartbeats 4000000 in
set_option maxRecDepth 100000 in
theorem c_X5_trim (l : Launch) {E : GE} {w : Wd} {a r p : Nat} {f : Nat → Int} {u bl : Int} (hO : w.2 a = some (true, eO 7 [.ref r, iI u, iI bl])) (hR : w.2 r = some (true, eI 18 f)) (hf : DC f) (hp : p ≤ 18) (hz : ∀ i, p ≤ i → i < 18 → f i = 0) (hbl : bl = 0 ∨ bl = 1) : Sp E l yX5_trim cX5_trim 3 none 0 (0) (0) [.ref a, iI (p : Int)] w (fun r' w' => r' = none ∧ ∃ u' : Nat, Wr f u' ∧ w'.2 a = some (true, oW r u' (if 0 < u' then bl else 0)) ∧ FrA w w' a) := by
  refine sp_intro [some (.ref a), some (iI (p : Int)), none] rfl (Nat.le_of_ble_eq_true rfl) pn_X5 ?_
  intro X C hRm hl hnm hQ
  obtain ⟨hRf, hRl, hRc, hRs⟩ := hRm
  refine g_wf (fun hwf => ?_)
  have hB28 : B28 = 268435456 := rfl
  have hne : a ≠ r := fun e => by rw [e, hR] at hO; simp at hO
  refine g_aload_n C dX5_trim_0 rfl ?_
  refine g_iconst C dX5_trim_1 ?_
  refine g_put (ci := 7) C rfl inTX5 tyX5 tyX5_ok nmX5 1 (by decide) fl_RX5_17 rfl rfl hO (Nat.le_of_ble_eq_true rfl) rfl rfl dX5_trim_2 ?_
  have J17 : G E X 3 17 [some (.ref a), some (iI (p : Int)), none] [iI (p : Int)] (wset w a (true, eO 7 [.ref r, iI 0, iI bl])) 0 0 := by
    refine g_iconst C dX5_trim_17 ?_
    refine g_isub C dX5_trim_18 ?_
    refine g_istore_n C dX5_trim_19 (by decide) rfl ?_
    refine g_loop (σ := Int × Nat) (fun s => -1 ≤ s.1 ∧ s.1 ≤ 17 ∧ s.2 ≤ 18 ∧ (s.2 = 0 ∧ (∀ i : Nat, s.1 < i → i < 18 → f i = 0) ∨ 0 < s.2 ∧ Wr f s.2)) (fun s => G E X 3 20 [some (.ref a), some (iI (p : Int)), some (iI s.1)] [] (wset w a (true, eO 7 [.ref r, iI (s.2 : Int), iI bl])) 0 0) (fun s => (s.1 + 1).toNat) ?_ ((p : Int) - 1, 0) ⟨by dsimp only; omega, by dsimp only; omega, by dsimp only; omega, Or.inl ⟨rfl, fun i h1 h2 => hz i (by dsimp only at h1; omega) h2⟩⟩
    rintro ⟨k, v⟩ hq ih
    obtain ⟨hk0, hk1, hv, hkv⟩ := hq
    dsimp only at hk0 hk1 hv hkv ⊢
    have hRk : (wset w a (true, eO 7 [.ref r, iI (v : Int), iI bl])).2 r = some (true, eI 18 f) := by rw [wset_n (Ne.symm hne)]; exact hR
    have J53 : Wr f v → G E X 3 53 [some (.ref a), some (iI (p : Int)), some (iI k)] [] (wset w a (true, eO 7 [.ref r, iI (v : Int), iI bl])) 0 0 := by
      intro hv2
      refine g_aload_n C dX5_trim_53 rfl ?_
      refine g_aload_n C dX5_trim_54 rfl ?_
      refine g_get (ci := 7) C rfl inTX5 2 (by decide) fl_RX5_13 rfl wset_s rfl dX5_trim_55 ?_
      refine g_if_eq (tgt := 72) C dX5_trim_58 (by decide) (by omega) (fun h58 => ?_) (fun h58 => ?_)
      · refine g_iconst C dX5_trim_72 ?_
        refine g_put (ci := 7) C rfl inTX5 tyX5 tyX5_ok nmX5 2 (by decide) fl_RX5_13 rfl rfl wset_s (Nat.le_of_ble_eq_true rfl) rfl rfl dX5_trim_73 ?_
        exact g_return C hQ dX5_trim_76 (Nat.le_refl _) (Nat.le_refl _) ⟨rfl, v, hv2, by
          rw [wset_s]
          first
          | rw [if_pos (by omega), show bl = 1 by omega]; rfl
          | (by_cases c : 0 < v
             · rw [if_pos c, show bl = 0 by omega]; rfl
             · rw [if_neg c]; rfl), ((FrA.rf _ _).set _).set _⟩
      · refine g_aload_n C dX5_trim_61 rfl ?_
        refine g_get (ci := 7) C rfl inTX5 1 (by decide) fl_RX5_17 rfl wset_s rfl dX5_trim_62 ?_
        refine g_if_le (tgt := 72) C dX5_trim_65 (by decide) (by omega) (fun h65 => ?_) (fun h65 => ?_)
        · refine g_iconst C dX5_trim_72 ?_
          refine g_put (ci := 7) C rfl inTX5 tyX5 tyX5_ok nmX5 2 (by decide) fl_RX5_13 rfl rfl wset_s (Nat.le_of_ble_eq_true rfl) rfl rfl dX5_trim_73 ?_
          exact g_return C hQ dX5_trim_76 (Nat.le_refl _) (Nat.le_refl _) ⟨rfl, v, hv2, by
            rw [wset_s]
            first
            | rw [if_pos (by omega), show bl = 1 by omega]; rfl
            | (by_cases c : 0 < v
               · rw [if_pos c, show bl = 0 by omega]; rfl
               · rw [if_neg c]; rfl), ((FrA.rf _ _).set _).set _⟩
        · refine g_iconst C dX5_trim_68 ?_
          refine g_goto (tgt := 73) C dX5_trim_69 (by decide) ?_
          refine g_put (ci := 7) C rfl inTX5 tyX5 tyX5_ok nmX5 2 (by decide) fl_RX5_13 rfl rfl wset_s (Nat.le_of_ble_eq_true rfl) rfl rfl dX5_trim_73 ?_
          exact g_return C hQ dX5_trim_76 (Nat.le_refl _) (Nat.le_refl _) ⟨rfl, v, hv2, by
            rw [wset_s]
            first
            | rw [if_pos (by omega), show bl = 1 by omega]; rfl
            | (by_cases c : 0 < v
               · rw [if_pos c, show bl = 0 by omega]; rfl
               · rw [if_neg c]; rfl), ((FrA.rf _ _).set _).set _⟩
    refine g_iload_n C dX5_trim_20 rfl ?_
    refine g_if_lt (tgt := 53) C dX5_trim_21 (by decide) (by omega) (fun h21 => ?_) (fun h21 => ?_)
    · first
      | exact J53 (by rcases hkv with ⟨q1, q2⟩ | ⟨q1, q2⟩; exact ⟨hf, by omega, fun i h1 h2 => q2 i (by omega) h2, fun q => by omega⟩; exact q2)
    · refine g_aload_n C dX5_trim_24 rfl ?_
      refine g_get (ci := 7) C rfl inTX5 1 (by decide) fl_RX5_17 rfl wset_s rfl dX5_trim_25 ?_
      refine g_if_ne (tgt := 53) C dX5_trim_28 (by decide) (by omega) (fun h28 => ?_) (fun h28 => ?_)
      · first
        | exact J53 (by rcases hkv with ⟨q1, q2⟩ | ⟨q1, q2⟩; exact ⟨hf, by omega, fun i h1 h2 => q2 i (by omega) h2, fun q => by omega⟩; exact q2)
      · refine g_aload_n C dX5_trim_31 rfl ?_
        refine g_get (ci := 7) C rfl inTX5 0 (by decide) fl_RX5_9 rfl wset_s rfl dX5_trim_32 ?_
        refine g_iload_n C dX5_trim_35 rfl ?_
        refine g_iaload C hRk (by omega) dX5_trim_36 ?_
        refine g_if_eq (tgt := 47) C dX5_trim_37 (by decide) (by have := hf k.toNat (by omega); omega) (fun h37 => ?_) (fun h37 => ?_)
        · refine g_iinc C dX5_trim_47 rfl (by decide) rfl ?_
          refine g_goto (tgt := 20) C dX5_trim_50 (by decide) ?_
          first
          | (refine ih (k + -1, v) ⟨by dsimp only; omega, by dsimp only; omega, hv, Or.inl ⟨by dsimp only; omega, fun i h1 h2 => ?_⟩⟩ (by dsimp only; omega)
             dsimp only at h1
             by_cases q : (i : Int) = k
             · rw [← q] at h37; simpa using h37
             · exact (by rcases hkv with ⟨q1, q2⟩ | ⟨q1, q2⟩; exact q2 i (by omega) h2; omega))
          | (rw [show k + 1 = ((k.toNat + 1 : Nat) : Int) by omega]
             refine ih (k + -1, k.toNat + 1) ⟨by dsimp only; omega, by dsimp only; omega, by dsimp only; omega, Or.inr ⟨Nat.succ_pos _, hf, by dsimp only; omega, fun i h1 h2 => ?_, fun _ => ?_⟩⟩ (by dsimp only; omega)
             · dsimp only at h1
               rcases hkv with ⟨q1, q2⟩ | ⟨q1, q2⟩
               · exact q2 i (by omega) h2
               · omega
             · show f (k.toNat + 1 - 1) ≠ 0
               rw [Nat.add_sub_cancel]; exact h37)
        · refine g_aload_n C dX5_trim_40 rfl ?_
          refine g_iload_n C dX5_trim_41 rfl ?_
          refine g_iconst C dX5_trim_42 ?_
          refine g_iadd C dX5_trim_43 ?_
          refine g_put (ci := 7) C rfl inTX5 tyX5 tyX5_ok nmX5 1 (by decide) fl_RX5_17 rfl rfl wset_s (Nat.le_of_ble_eq_true rfl) rfl rfl dX5_trim_44 ?_
          rw [wset_set]
          refine g_iinc C dX5_trim_47 rfl (by decide) rfl ?_
          refine g_goto (tgt := 20) C dX5_trim_50 (by decide) ?_
          first
          | (refine ih (k + -1, v) ⟨by dsimp only; omega, by dsimp only; omega, hv, Or.inl ⟨by dsimp only; omega, fun i h1 h2 => ?_⟩⟩ (by dsimp only; omega)
             dsimp only at h1
             by_cases q : (i : Int) = k
             · rw [← q] at h37; simpa using h37
             · exact (by rcases hkv with ⟨q1, q2⟩ | ⟨q1, q2⟩; exact q2 i (by omega) h2; omega))
          | (rw [show k + 1 = ((k.toNat + 1 : Nat) : Int) by omega]
             refine ih (k + -1, k.toNat + 1) ⟨by dsimp only; omega, by dsimp only; omega, by dsimp only; omega, Or.inr ⟨Nat.succ_pos _, hf, by dsimp only; omega, fun i h1 h2 => ?_, fun _ => ?_⟩⟩ (by dsimp only; omega)
             · dsimp only at h1
               rcases hkv with ⟨q1, q2⟩ | ⟨q1, q2⟩
               · exact q2 i (by omega) h2
               · omega
             · show f (k.toNat + 1 - 1) ≠ 0
               rw [Nat.add_sub_cancel]; exact h37)
  refine g_iload_n C dX5_trim_5 rfl ?_
  refine g_bipush C dX5_trim_6 (by decide) ?_
  refine g_icmp_ge (tgt := 15) C dX5_trim_8 (by decide) (by omega) (by omega) (fun h8 => ?_) (fun h8 => ?_)
  · refine g_bipush C dX5_trim_15 (by decide) ?_
    first | exact J17 | exact g_eq rfl (by rw [show (18 : Int) = (p : Int) by omega]) J17
  · refine g_iload_n C dX5_trim_11 rfl ?_
    refine g_goto (tgt := 17) C dX5_trim_12 (by decide) ?_
    first | exact J17 | exact g_eq rfl (by rw [show (18 : Int) = (p : Int) by omega]) J17
set_option maxHeartbeats 4000000 in
set_option maxRecDepth 100000 in
theorem c_X5_compareSize (l : Launch) {E : GE} {w : Wd} {a r : Nat} {f : Nat → Int} {u : Nat} {bl : Int} (h1 : RA w a r f u bl) {b s : Nat} {g : Nat → Int} {v : Nat} {bm : Int} (h2 : RA w b s g v bm) : Sp E l yX5_compareSize cX5_compareSize 3 (some .int) 1 (0) (0) [.ref a, .ref b] w (fun r' w' => (∃ d : Int, r' = some (iI d) ∧ (V18 f < V18 g ∧ d = -1 ∨ V18 f = V18 g ∧ d = 0 ∨ V18 g < V18 f ∧ d = 1)) ∧ w' = w) := by
  refine sp_intro [some (.ref a), some (.ref b), none] rfl (Nat.le_of_ble_eq_true rfl) pn_X5 ?_
  intro X C hRm hl hnm hQ
  obtain ⟨hRf, hRl, hRc, hRs⟩ := hRm
  refine g_wf (fun hwf => ?_)
  have hB28 : B28 = 268435456 := rfl
  have hne := h1.ne
  obtain ⟨hO, hR, hf, hbl⟩ := id h1
  have hu18 := hf.2.1
  have hne2 := h2.ne
  have hn12 := h1.ne2 h2
  have hn21 := h2.ne2 h1
  obtain ⟨hO2, hR2, hg, hbm⟩ := id h2
  have hv18 := hg.2.1
  obtain ⟨q, hq1, hq2, hq3, hq4, hq5, hq6⟩ := mx18 hu18 hv18
  refine g_bipush C dX5_compareSize_0 (by decide) ?_
  refine g_aload_n C dX5_compareSize_2 rfl ?_
  refine g_get (ci := 7) C rfl inTX5 1 (by decide) fl_RX5_17 rfl hO rfl dX5_compareSize_3 ?_
  refine g_aload_n C dX5_compareSize_6 rfl ?_
  refine g_get (ci := 7) C rfl inTX5 1 (by decide) fl_RX5_17 rfl hO2 rfl dX5_compareSize_7 ?_
  refine g_max C ml_RX5_60 (by omega) (by omega) (by omega) (by omega) (Nat.le_of_ble_eq_true rfl) (by omega) dX5_compareSize_10 ?_
  rw [hq5]
  refine g_min C ml_RX5_66 (by omega) (by omega) (by omega) (by omega) (Nat.le_of_ble_eq_true rfl) (by omega) dX5_compareSize_13 ?_
  rw [hq6]
  refine g_iconst C dX5_compareSize_16 ?_
  refine g_isub C dX5_compareSize_17 ?_
  refine g_istore_n C dX5_compareSize_18 (by decide) rfl ?_
  refine g_loop (σ := Int) (fun i => -1 ≤ i ∧ i ≤ 17 ∧ ∀ j : Nat, i < j → j < 18 → f j = g j) (fun i => G E X 3 19 [some (.ref a), some (.ref b), some (iI i)] [] w 0 0) (fun i => (i + 1).toNat) ?_ ((q : Int) - 1) ⟨by omega, by omega, fun j h3 h4 => by rw [hf.2.2.1 j (by omega) h4, hg.2.2.1 j (by omega) h4]⟩
  rintro i ⟨hi0, hi1, heq⟩ ih
  refine g_iload_n C dX5_compareSize_19 rfl ?_
  refine g_if_lt (tgt := 65) C dX5_compareSize_20 (by decide) (by omega) (fun h20 => ?_) (fun h20 => ?_)
  · refine g_iconst C dX5_compareSize_65 ?_
    exact g_ireturn C hQ dX5_compareSize_66 (Nat.le_refl _) (Nat.le_refl _) ⟨⟨0, rfl, Or.inr (Or.inl ⟨nv_congr (fun j hj => heq j (by omega) hj), rfl⟩)⟩, rfl⟩
  · obtain ⟨k, rfl⟩ := Int.eq_ofNat_of_zero_le (show 0 ≤ i by omega)
    have hfk := hf.1 k (by omega)
    have hgk := hg.1 k (by omega)
    refine g_aload_n C dX5_compareSize_23 rfl ?_
    refine g_get (ci := 7) C rfl inTX5 0 (by decide) fl_RX5_9 rfl hO rfl dX5_compareSize_24 ?_
    refine g_iload_n C dX5_compareSize_27 rfl ?_
    refine g_ialoadN (k) C hR (by omega) (by omega) dX5_compareSize_28 ?_
    refine g_aload_n C dX5_compareSize_29 rfl ?_
    refine g_get (ci := 7) C rfl inTX5 0 (by decide) fl_RX5_9 rfl hO2 rfl dX5_compareSize_30 ?_
    refine g_iload_n C dX5_compareSize_33 rfl ?_
    refine g_ialoadN (k) C hR2 (by omega) (by omega) dX5_compareSize_34 ?_
    refine g_icmp_eq (tgt := 59) C dX5_compareSize_35 (by decide) (by omega) (by omega) (fun h35 => ?_) (fun h35 => ?_)
    · refine g_iinc C dX5_compareSize_59 rfl (by decide) rfl ?_
      refine g_goto (tgt := 19) C dX5_compareSize_62 (by decide) ?_
      exact ih ((k : Int) + -1) ⟨by omega, by omega, fun j h3 h4 => by
        by_cases c : j = k
        · rw [c]; omega
        · exact heq j (by omega) h4⟩ (by omega)
    · refine g_aload_n C dX5_compareSize_38 rfl ?_
      refine g_get (ci := 7) C rfl inTX5 0 (by decide) fl_RX5_9 rfl hO rfl dX5_compareSize_39 ?_
      refine g_iload_n C dX5_compareSize_42 rfl ?_
      refine g_ialoadN (k) C hR (by omega) (by omega) dX5_compareSize_43 ?_
      refine g_aload_n C dX5_compareSize_44 rfl ?_
      refine g_get (ci := 7) C rfl inTX5 0 (by decide) fl_RX5_9 rfl hO2 rfl dX5_compareSize_45 ?_
      refine g_iload_n C dX5_compareSize_48 rfl ?_
      refine g_ialoadN (k) C hR2 (by omega) (by omega) dX5_compareSize_49 ?_
      refine g_icmp_le (tgt := 57) C dX5_compareSize_50 (by decide) (by omega) (by omega) (fun h50 => ?_) (fun h50 => ?_)
      · refine g_iconst C dX5_compareSize_57 ?_
        exact g_ireturn C hQ dX5_compareSize_58 (Nat.le_refl _) (Nat.le_refl _) ⟨⟨_, rfl, by
          first
          | exact Or.inr (Or.inr ⟨nv_cmp (by decide) (hg.1.dg (Nat.le_refl _)) (hf.1.dg (Nat.le_refl _)) (k := k) (by omega) (fun j h3 h4 => (heq j (by omega) h4).symm) (by omega), rfl⟩)
          | exact Or.inl ⟨nv_cmp (by decide) (hf.1.dg (Nat.le_refl _)) (hg.1.dg (Nat.le_refl _)) (k := k) (by omega) (fun j h3 h4 => heq j (by omega) h4) (by omega), rfl⟩⟩, rfl⟩
      · refine g_iconst C dX5_compareSize_53 ?_
        refine g_goto (tgt := 58) C dX5_compareSize_54 (by decide) ?_
        exact g_ireturn C hQ dX5_compareSize_58 (Nat.le_refl _) (Nat.le_refl _) ⟨⟨_, rfl, by
          first
          | exact Or.inr (Or.inr ⟨nv_cmp (by decide) (hg.1.dg (Nat.le_refl _)) (hf.1.dg (Nat.le_refl _)) (k := k) (by omega) (fun j h3 h4 => (heq j (by omega) h4).symm) (by omega), rfl⟩)
          | exact Or.inl ⟨nv_cmp (by decide) (hf.1.dg (Nat.le_refl _)) (hg.1.dg (Nat.le_refl _)) (k := k) (by omega) (fun j h3 h4 => heq j (by omega) h4) (by omega), rfl⟩⟩, rfl⟩
set_option maxHeartbeats 4000000 in
set_option maxRecDepth 100000 in
theorem c_X5_addSize (l : Launch) {E : GE} {w : Wd} {a r : Nat} {f : Nat → Int} {u : Nat} {bl : Int} (h1 : RA w a r f u bl) {b s : Nat} {g : Nat → Int} {v : Nat} {bm : Int} (h2 : RA w b s g v bm) (hrs : r ≠ s) (hbd : V18 f + V18 g < B28 ^ 18) : Sp E l yX5_addSize cX5_addSize 5 none 1 (0) (0) [.ref a, .ref b] w (fun r' w' => r' = none ∧ ∃ f' u', RA w' a r f' u' (if 0 < u' then bl else 0) ∧ V18 f' = V18 f + V18 g ∧ FrW w w' a r) := by
  refine sp_intro [some (.ref a), some (.ref b), none, none, none] rfl (Nat.le_of_ble_eq_true rfl) pn_X5 ?_
  intro X C hRm hl hnm hQ
  obtain ⟨hRf, hRl, hRc, hRs⟩ := hRm
  refine g_wf (fun hwf => ?_)
  have hB28 : B28 = 268435456 := rfl
  have hne := h1.ne
  obtain ⟨hO, hR, hf, hbl⟩ := id h1
  have hu18 := hf.2.1
  have hne2 := h2.ne
  have hn12 := h1.ne2 h2
  have hn21 := h2.ne2 h1
  obtain ⟨hO2, hR2, hg, hbm⟩ := id h2
  have hv18 := hg.2.1
  obtain ⟨q, hq1, hq2, hq3, hq4, hq5, hq6⟩ := mx18 hu18 hv18
  obtain ⟨e, he1, he2, he3⟩ := mn18 (q + 1)
  refine g_bipush C dX5_addSize_0 (by decide) ?_
  refine g_aload_n C dX5_addSize_2 rfl ?_
  refine g_get (ci := 7) C rfl inTX5 1 (by decide) fl_RX5_17 rfl hO rfl dX5_addSize_3 ?_
  refine g_aload_n C dX5_addSize_6 rfl ?_
  refine g_get (ci := 7) C rfl inTX5 1 (by decide) fl_RX5_17 rfl hO2 rfl dX5_addSize_7 ?_
  refine g_max C ml_RX5_60 (by omega) (by omega) (by omega) (by omega) (Nat.le_of_ble_eq_true rfl) (by omega) dX5_addSize_10 ?_
  rw [hq5]
  refine g_iconst C dX5_addSize_13 ?_
  refine g_iadd C dX5_addSize_14 ?_
  rw [show (q : Int) + 1 = ((q + 1 : Nat) : Int) by omega]
  refine g_min C ml_RX5_66 (by omega) (by omega) (by omega) (by omega) (Nat.le_of_ble_eq_true rfl) (by omega) dX5_addSize_15 ?_
  rw [he3]
  refine g_istore_n C dX5_addSize_18 (by decide) rfl ?_
  refine g_iconst C dX5_addSize_19 ?_
  refine g_istore_n C dX5_addSize_20 (by decide) rfl ?_
  refine g_iconst C dX5_addSize_21 ?_
  refine g_istore C dX5_addSize_22 (by decide) rfl ?_
  suffices hh : G E X 5 24 [some (.ref a), some (.ref b), some (iI (e : Int)), some (iI 0), some (iI ((0 : Nat) : Int))] [] (wset w r (true, eI 18 f)) 0 0 by rw [wset_id hR] at hh; exact hh
  refine g_loop (σ := Nat × Int × (Nat → Int)) (fun t => t.1 ≤ e ∧ (t.2.1 = 0 ∨ t.2.1 = 1) ∧ DC t.2.2 ∧ (∀ i, t.1 ≤ i → t.2.2 i = f i) ∧ nv B28 t.2.2 t.1 + t.2.1 * B28 ^ t.1 = nv B28 f t.1 + nv B28 g t.1) (fun t => G E X 5 24 [some (.ref a), some (.ref b), some (iI (e : Int)), some (iI t.2.1), some (iI (t.1 : Int))] [] (wset w r (true, eI 18 t.2.2)) 0 0) (fun t => e - t.1) ?_ (0, 0, f) ⟨Nat.zero_le _, Or.inl rfl, hf.1, fun i _ => rfl, by rfl⟩
  rintro ⟨j, c, h⟩ hq ih
  obtain ⟨hj, hc, hdh, hhi, hv⟩ := hq
  dsimp only at hj hc hdh hhi hv ⊢
  have hOk : (wset w r (true, eI 18 h)).2 a = some (true, oW r u bl) := by rw [wset_n hne]; exact hO
  have hO2k : (wset w r (true, eI 18 h)).2 b = some (true, oW s v bm) := by rw [wset_n hn21]; exact hO2
  have hR2k : (wset w r (true, eI 18 h)).2 s = some (true, eI 18 g) := by rw [wset_n (Ne.symm hrs)]; exact hR2
  refine g_iload C dX5_addSize_24 rfl ?_
  refine g_iload_n C dX5_addSize_26 rfl ?_
  refine g_icmp_ge (tgt := 70) C dX5_addSize_27 (by decide) (by omega) (by omega) (fun h27 => ?_) (fun h27 => ?_)
  · have ej : j = e := by omega
    subst ej
    have hc0 : c = 0 := by
      rcases hc with c1 | c1
      · exact c1
      · exfalso
        have hn0 := nv_nonneg (B := B28) (by decide) (hdh.dg he1)
        rw [c1, Int.one_mul] at hv
        rcases he2 with ⟨k1, k2⟩ | ⟨k1, k2⟩
        · have e1 : nv B28 f j = V18 f := (nv_zeros (B := B28) (f := f) (m := j) (n := 18) he1 (fun i h3 h4 => hf.2.2.1 i (by omega) h4)).symm
          have e2 : nv B28 g j = V18 g := (nv_zeros (B := B28) (f := g) (m := j) (n := 18) he1 (fun i h3 h4 => hg.2.2.1 i (by omega) h4)).symm
          have l1 := hf.lt
          have l2 := hg.lt
          have l3 := pw28_le hq1
          have l4 := pw28_le hq2
          have l5 : B28 ^ j = B28 ^ q * B28 := by rw [k1, Int.pow_succ]
          have l6 := pw_pos (B := B28) (by decide) q
          rw [e1, e2] at hv
          have l7 : B28 ^ q * 2 ≤ B28 ^ q * B28 := Int.mul_le_mul_of_nonneg_left (by decide) (Int.le_of_lt l6)
          omega
        · subst k1
          unfold V18 at hbd
          omega
    rw [hc0, Int.zero_mul, Int.add_zero] at hv
    have hz : ∀ i, j ≤ i → i < 18 → h i = 0 := fun i h3 h4 => by
      rw [hhi i h3]
      exact hf.2.2.1 i (by omega) h4
    have hV : V18 h = V18 f + V18 g := by
      rw [show V18 h = nv B28 h j from nv_zeros he1 hz, hv]
      congr 1
      · exact (nv_zeros he1 (fun i h3 h4 => hf.2.2.1 i (by omega) h4)).symm
      · exact (nv_zeros he1 (fun i h3 h4 => hg.2.2.1 i (by omega) h4)).symm
    refine g_aload_n C dX5_addSize_70 rfl ?_
    refine g_iload_n C dX5_addSize_71 rfl ?_
    refine g_callV C (c_X5_trim _ (p := j) hOk wset_s hdh he1 hz hbl) (ci := 7) rfl hOk rfl ml_RX5_30 im_yX5_trim se_RX5_yX5_trim in_RX5 co_yX5_trim hd_X5_trim rfl ⟨by omega, by omega⟩ rfl (Nat.le_of_ble_eq_true rfl) ⟨by omega, by omega⟩ dX5_addSize_72 (fun v72 w72 hp72 => ?_)
    obtain ⟨rfl, u', hw9, hO9, fr9⟩ := hp72
    exact g_return C hQ dX5_addSize_75 (Nat.le_refl _) (Nat.le_refl _) ⟨rfl, h, u', ⟨hO9, by rw [fr9.2 r (Ne.symm hne)]; exact wset_s, hw9, by split <;> omega⟩, hV, ⟨fr9.1, fun x h3 h4 => by rw [fr9.2 x h3, wset_n h4]⟩⟩
  · have hfk := hf.1 j (by omega)
    have hgk := hg.1 j (by omega)
    have hm28 := mod28 (c + (f j + g j))
    have hm28e : (c + (f j + g j)) % B28 = (c + (f j + g j)) % 268435456 := rfl
    have hd28e : (c + (f j + g j)) / B28 = (c + (f j + g j)) / 268435456 := rfl
    refine g_iload_n C dX5_addSize_30 rfl ?_
    refine g_aload_n C dX5_addSize_31 rfl ?_
    refine g_get (ci := 7) C rfl inTX5 0 (by decide) fl_RX5_9 rfl hOk rfl dX5_addSize_32 ?_
    refine g_iload C dX5_addSize_35 rfl ?_
    refine g_ialoadN (j) C wset_s (by omega) (by omega) dX5_addSize_37 ?_
    rw [hhi j (Nat.le_refl _)]
    refine g_aload_n C dX5_addSize_38 rfl ?_
    refine g_get (ci := 7) C rfl inTX5 0 (by decide) fl_RX5_9 rfl hO2k rfl dX5_addSize_39 ?_
    refine g_iload C dX5_addSize_42 rfl ?_
    refine g_ialoadN (j) C hR2k (by omega) (by omega) dX5_addSize_44 ?_
    refine g_iadd C dX5_addSize_45 ?_
    refine g_iadd C dX5_addSize_46 ?_
    refine g_istore_n C dX5_addSize_47 (by decide) rfl ?_
    refine g_aload_n C dX5_addSize_48 rfl ?_
    refine g_get (ci := 7) C rfl inTX5 0 (by decide) fl_RX5_9 rfl hOk rfl dX5_addSize_49 ?_
    refine g_iload C dX5_addSize_52 rfl ?_
    refine g_iload_n C dX5_addSize_54 rfl ?_
    refine g_ldc (z := 268435455) C ko_RX5_69 (by decide) dX5_addSize_55 ?_
    refine g_iand (z := (c + (f j + g j)) % B28) C dX5_addSize_57 (i_mask 28 (by omega) mask28) ?_
    refine g_iastoreN (j) C wset_s (by omega) (by omega) dX5_addSize_58 ?_
    rw [wset_set]
    refine g_iload_n C dX5_addSize_59 rfl ?_
    refine g_bipush C dX5_addSize_60 (by decide) ?_
    refine g_iushr (z := (c + (f j + g j)) / B28) C dX5_addSize_62 (i_ushr 28 (by omega) (by omega) (by decide)) ?_
    refine g_istore_n C dX5_addSize_63 (by decide) rfl ?_
    refine g_iinc C dX5_addSize_64 rfl (by decide) rfl ?_
    refine g_goto (tgt := 24) C dX5_addSize_67 (by decide) ?_
    exact ih (j + 1, (c + (f j + g j)) / B28, iup h j ((c + (f j + g j)) % B28)) ⟨by dsimp only; omega, by dsimp only; omega, hdh.up _ hm28, fun i h3 => by dsimp only at h3 ⊢; rw [iup_n (by omega)]; exact hhi i (by omega), add_step (by decide) hv (by omega)⟩ (by dsimp only; omega)
set_option maxHeartbeats 4000000 in
set_option maxRecDepth 100000 in
theorem c_X5_takeSize (l : Launch) {E : GE} {w : Wd} {a r : Nat} {f : Nat → Int} {u : Nat} {bl : Int} (h1 : RA w a r f u bl) {b s : Nat} {g : Nat → Int} {v : Nat} {bm : Int} (h2 : RA w b s g v bm) (hrs : r ≠ s) (hle : V18 g ≤ V18 f) : Sp E l yX5_takeSize cX5_takeSize 6 none 1 (0) (0) [.ref a, .ref b] w (fun r' w' => r' = none ∧ ∃ f' u', RA w' a r f' u' (if 0 < u' then bl else 0) ∧ V18 f' = V18 f - V18 g ∧ FrW w w' a r) := by
  refine sp_intro [some (.ref a), some (.ref b), none, none, none, none] rfl (Nat.le_of_ble_eq_true rfl) pn_X5 ?_
  intro X C hRm hl hnm hQ
  obtain ⟨hRf, hRl, hRc, hRs⟩ := hRm
  refine g_wf (fun hwf => ?_)
  have hB28 : B28 = 268435456 := rfl
  have hne := h1.ne
  obtain ⟨hO, hR, hf, hbl⟩ := id h1
  have hu18 := hf.2.1
  have hne2 := h2.ne
  have hn12 := h1.ne2 h2
  have hn21 := h2.ne2 h1
  obtain ⟨hO2, hR2, hg, hbm⟩ := id h2
  have hv18 := hg.2.1
  have hvu := hf.len hg hle
  obtain ⟨e, he1, he2, he3⟩ := mn18 u
  have heu : e = u := by omega
  subst heu
  refine g_bipush C dX5_takeSize_0 (by decide) ?_
  refine g_aload_n C dX5_takeSize_2 rfl ?_
  refine g_get (ci := 7) C rfl inTX5 1 (by decide) fl_RX5_17 rfl hO rfl dX5_takeSize_3 ?_
  refine g_min C ml_RX5_66 (by omega) (by omega) (by omega) (by omega) (Nat.le_of_ble_eq_true rfl) (by omega) dX5_takeSize_6 ?_
  rw [he3]
  refine g_istore_n C dX5_takeSize_9 (by decide) rfl ?_
  refine g_iconst C dX5_takeSize_10 ?_
  refine g_istore_n C dX5_takeSize_11 (by decide) rfl ?_
  refine g_iconst C dX5_takeSize_12 ?_
  refine g_istore C dX5_takeSize_13 (by decide) rfl ?_
  suffices hh : G E X 6 15 [some (.ref a), some (.ref b), some (iI (e : Int)), some (iI 0), some (iI ((0 : Nat) : Int)), none] [] (wset w r (true, eI 18 f)) 0 0 by rw [wset_id hR] at hh; exact hh
  refine g_loop (σ := Nat × Int × (Nat → Int)) (fun t => t.1 ≤ e ∧ (t.2.1 = 0 ∨ t.2.1 = 1) ∧ DC t.2.2 ∧ (∀ i, t.1 ≤ i → t.2.2 i = f i) ∧ nv B28 t.2.2 t.1 = nv B28 f t.1 - nv B28 g t.1 + t.2.1 * B28 ^ t.1) (fun t => G E X 6 15 [some (.ref a), some (.ref b), some (iI (e : Int)), some (iI t.2.1), some (iI (t.1 : Int)), none] [] (wset w r (true, eI 18 t.2.2)) 0 0) (fun t => e - t.1) ?_ (0, 0, f) ⟨Nat.zero_le _, Or.inl rfl, hf.1, fun i _ => rfl, by rfl⟩
  rintro ⟨j, c, h⟩ hq ih
  obtain ⟨hj, hc, hdh, hhi, hv⟩ := hq
  dsimp only at hj hc hdh hhi hv ⊢
  have hOk : (wset w r (true, eI 18 h)).2 a = some (true, oW r e bl) := by rw [wset_n hne]; exact hO
  have hO2k : (wset w r (true, eI 18 h)).2 b = some (true, oW s v bm) := by rw [wset_n hn21]; exact hO2
  have hR2k : (wset w r (true, eI 18 h)).2 s = some (true, eI 18 g) := by rw [wset_n (Ne.symm hrs)]; exact hR2
  refine g_iload C dX5_takeSize_15 rfl ?_
  refine g_iload_n C dX5_takeSize_17 rfl ?_
  refine g_icmp_ge (tgt := 69) C dX5_takeSize_18 (by decide) (by omega) (by omega) (fun h18 => ?_) (fun h18 => ?_)
  · have ej : j = e := by omega
    subst ej
    have hn0 := nv_lt (B := B28) (by decide) (hdh.dg he1)
    have e1 : nv B28 f j = V18 f := hf.val.symm
    have e2 : nv B28 g j = V18 g := (nv_zeros (B := B28) (f := g) (m := j) (n := 18) he1 (fun i h3 h4 => hg.2.2.1 i (by omega) h4)).symm
    rw [e1, e2] at hv
    have hc0 : c = 0 := by
      rcases hc with c1 | c1
      · exact c1
      · rw [c1, Int.one_mul] at hv; omega
    rw [hc0, Int.zero_mul, Int.add_zero] at hv
    have hz : ∀ i, j ≤ i → i < 18 → h i = 0 := fun i h3 h4 => by
      rw [hhi i h3]
      exact hf.2.2.1 i h3 h4
    have hV : V18 h = V18 f - V18 g := by
      rw [show V18 h = nv B28 h j from nv_zeros he1 hz, hv]
    refine g_aload_n C dX5_takeSize_69 rfl ?_
    refine g_iload_n C dX5_takeSize_70 rfl ?_
    refine g_callV C (c_X5_trim _ (p := j) hOk wset_s hdh he1 hz hbl) (ci := 7) rfl hOk rfl ml_RX5_30 im_yX5_trim se_RX5_yX5_trim in_RX5 co_yX5_trim hd_X5_trim rfl ⟨by omega, by omega⟩ rfl (Nat.le_of_ble_eq_true rfl) ⟨by omega, by omega⟩ dX5_takeSize_71 (fun v71 w71 hp71 => ?_)
    obtain ⟨rfl, u', hw9, hO9, fr9⟩ := hp71
    exact g_return C hQ dX5_takeSize_74 (Nat.le_refl _) (Nat.le_refl _) ⟨rfl, h, u', ⟨hO9, by rw [fr9.2 r (Ne.symm hne)]; exact wset_s, hw9, by split <;> omega⟩, hV, ⟨fr9.1, fun x h3 h4 => by rw [fr9.2 x h3, wset_n h4]⟩⟩
  · have hfk := hf.1 j (by omega)
    have hgk := hg.1 j (by omega)
    have hm28 := mod28 (f j - g j - c)
    have hm28e : (f j - g j - c) % B28 = (f j - g j - c) % 268435456 := rfl
    have J62 : ∀ c2 : Int, (c2 = 0 ∧ 0 ≤ f j - g j - c ∨ c2 = 1 ∧ f j - g j - c < 0) → G E X 6 62 [some (.ref a), some (.ref b), some (iI (e : Int)), some (iI c), some (iI (j : Int)), some (iI (f j - g j - c))] [iI c2] (wset w r (true, eI 18 (iup h j ((f j - g j - c) % B28)))) 0 0 := by
      intro c2 hc2
      refine g_istore_n C dX5_takeSize_62 (by decide) rfl ?_
      refine g_iinc C dX5_takeSize_63 rfl (by decide) rfl ?_
      refine g_goto (tgt := 15) C dX5_takeSize_66 (by decide) ?_
      have hsb : (f j - g j - c) % B28 = f j - c - g j + c2 * B28 := by rcases hc2 with ⟨c3, c4⟩ | ⟨c3, c4⟩ <;> (rw [c3]; omega)
      refine g_drop 5 ?_
      exact ih (j + 1, c2, iup h j ((f j - g j - c) % B28)) ⟨by dsimp only; omega, by dsimp only; omega, hdh.up _ hm28, fun i h3 => by dsimp only at h3 ⊢; rw [iup_n (by omega)]; exact hhi i (by omega), sub_step (l' := c2) hv hsb⟩ (by dsimp only; omega)
    refine g_aload_n C dX5_takeSize_21 rfl ?_
    refine g_get (ci := 7) C rfl inTX5 0 (by decide) fl_RX5_9 rfl hOk rfl dX5_takeSize_22 ?_
    refine g_iload C dX5_takeSize_25 rfl ?_
    refine g_ialoadN (j) C wset_s (by omega) (by omega) dX5_takeSize_27 ?_
    rw [hhi j (Nat.le_refl _)]
    refine g_aload_n C dX5_takeSize_28 rfl ?_
    refine g_get (ci := 7) C rfl inTX5 0 (by decide) fl_RX5_9 rfl hO2k rfl dX5_takeSize_29 ?_
    refine g_iload C dX5_takeSize_32 rfl ?_
    refine g_ialoadN (j) C hR2k (by omega) (by omega) dX5_takeSize_34 ?_
    refine g_isub C dX5_takeSize_35 ?_
    refine g_iload_n C dX5_takeSize_36 rfl ?_
    refine g_isub C dX5_takeSize_37 ?_
    refine g_istore C dX5_takeSize_38 (by decide) rfl ?_
    refine g_aload_n C dX5_takeSize_40 rfl ?_
    refine g_get (ci := 7) C rfl inTX5 0 (by decide) fl_RX5_9 rfl hOk rfl dX5_takeSize_41 ?_
    refine g_iload C dX5_takeSize_44 rfl ?_
    refine g_iload C dX5_takeSize_46 rfl ?_
    refine g_ldc (z := 268435455) C ko_RX5_69 (by decide) dX5_takeSize_48 ?_
    refine g_iand (z := (f j - g j - c) % B28) C dX5_takeSize_50 (i_mask 28 (by omega) mask28) ?_
    refine g_iastoreN (j) C wset_s (by omega) (by omega) dX5_takeSize_51 ?_
    rw [wset_set]
    refine g_iload C dX5_takeSize_52 rfl ?_
    refine g_if_ge (tgt := 61) C dX5_takeSize_54 (by decide) (by omega) (fun h54 => ?_) (fun h54 => ?_)
    · refine g_iconst C dX5_takeSize_61 ?_
      exact J62 _ (by omega)
    · refine g_iconst C dX5_takeSize_57 ?_
      refine g_goto (tgt := 62) C dX5_takeSize_58 (by decide) ?_
      exact J62 _ (by omega)
set_option maxHeartbeats 4000000 in
set_option maxRecDepth 100000 in
theorem c_X5_takeFromSize (l : Launch) {E : GE} {w : Wd} {a r : Nat} {f : Nat → Int} {u : Nat} {bl : Int} (h1 : RA w a r f u bl) {b s : Nat} {g : Nat → Int} {v : Nat} {bm : Int} (h2 : RA w b s g v bm) (hrs : r ≠ s) (hle : V18 f ≤ V18 g) : Sp E l yX5_takeFromSize cX5_takeFromSize 6 none 1 (0) (0) [.ref a, .ref b] w (fun r' w' => r' = none ∧ ∃ f' u', RA w' a r f' u' (if 0 < u' then bl else 0) ∧ V18 f' = V18 g - V18 f ∧ FrW w w' a r) := by
  refine sp_intro [some (.ref a), some (.ref b), none, none, none, none] rfl (Nat.le_of_ble_eq_true rfl) pn_X5 ?_
  intro X C hRm hl hnm hQ
  obtain ⟨hRf, hRl, hRc, hRs⟩ := hRm
  refine g_wf (fun hwf => ?_)
  have hB28 : B28 = 268435456 := rfl
  have hne := h1.ne
  obtain ⟨hO, hR, hf, hbl⟩ := id h1
  have hu18 := hf.2.1
  have hne2 := h2.ne
  have hn12 := h1.ne2 h2
  have hn21 := h2.ne2 h1
  obtain ⟨hO2, hR2, hg, hbm⟩ := id h2
  have hv18 := hg.2.1
  have hvu := hg.len hf hle
  obtain ⟨e, he1, he2, he3⟩ := mn18 v
  have heu : e = v := by omega
  subst heu
  refine g_bipush C dX5_takeFromSize_0 (by decide) ?_
  refine g_aload_n C dX5_takeFromSize_2 rfl ?_
  refine g_get (ci := 7) C rfl inTX5 1 (by decide) fl_RX5_17 rfl hO2 rfl dX5_takeFromSize_3 ?_
  refine g_min C ml_RX5_66 (by omega) (by omega) (by omega) (by omega) (Nat.le_of_ble_eq_true rfl) (by omega) dX5_takeFromSize_6 ?_
  rw [he3]
  refine g_istore_n C dX5_takeFromSize_9 (by decide) rfl ?_
  refine g_iconst C dX5_takeFromSize_10 ?_
  refine g_istore_n C dX5_takeFromSize_11 (by decide) rfl ?_
  refine g_iconst C dX5_takeFromSize_12 ?_
  refine g_istore C dX5_takeFromSize_13 (by decide) rfl ?_
  suffices hh : G E X 6 15 [some (.ref a), some (.ref b), some (iI (e : Int)), some (iI 0), some (iI ((0 : Nat) : Int)), none] [] (wset w r (true, eI 18 f)) 0 0 by rw [wset_id hR] at hh; exact hh
  refine g_loop (σ := Nat × Int × (Nat → Int)) (fun t => t.1 ≤ e ∧ (t.2.1 = 0 ∨ t.2.1 = 1) ∧ DC t.2.2 ∧ (∀ i, t.1 ≤ i → t.2.2 i = f i) ∧ nv B28 t.2.2 t.1 = nv B28 g t.1 - nv B28 f t.1 + t.2.1 * B28 ^ t.1) (fun t => G E X 6 15 [some (.ref a), some (.ref b), some (iI (e : Int)), some (iI t.2.1), some (iI (t.1 : Int)), none] [] (wset w r (true, eI 18 t.2.2)) 0 0) (fun t => e - t.1) ?_ (0, 0, f) ⟨Nat.zero_le _, Or.inl rfl, hf.1, fun i _ => rfl, by rfl⟩
  rintro ⟨j, c, h⟩ hq ih
  obtain ⟨hj, hc, hdh, hhi, hv⟩ := hq
  dsimp only at hj hc hdh hhi hv ⊢
  have hOk : (wset w r (true, eI 18 h)).2 a = some (true, oW r u bl) := by rw [wset_n hne]; exact hO
  have hO2k : (wset w r (true, eI 18 h)).2 b = some (true, oW s e bm) := by rw [wset_n hn21]; exact hO2
  have hR2k : (wset w r (true, eI 18 h)).2 s = some (true, eI 18 g) := by rw [wset_n (Ne.symm hrs)]; exact hR2
  refine g_iload C dX5_takeFromSize_15 rfl ?_
  refine g_iload_n C dX5_takeFromSize_17 rfl ?_
  refine g_icmp_ge (tgt := 69) C dX5_takeFromSize_18 (by decide) (by omega) (by omega) (fun h18 => ?_) (fun h18 => ?_)
  · have ej : j = e := by omega
    subst ej
    have hn0 := nv_lt (B := B28) (by decide) (hdh.dg he1)
    have e1 : nv B28 g j = V18 g := hg.val.symm
    have e2 : nv B28 f j = V18 f := (nv_zeros (B := B28) (f := f) (m := j) (n := 18) he1 (fun i h3 h4 => hf.2.2.1 i (by omega) h4)).symm
    rw [e1, e2] at hv
    have hc0 : c = 0 := by
      rcases hc with c1 | c1
      · exact c1
      · rw [c1, Int.one_mul] at hv; omega
    rw [hc0, Int.zero_mul, Int.add_zero] at hv
    have hz : ∀ i, j ≤ i → i < 18 → h i = 0 := fun i h3 h4 => by
      rw [hhi i h3]
      exact hf.2.2.1 i (by omega) h4
    have hV : V18 h = V18 g - V18 f := by
      rw [show V18 h = nv B28 h j from nv_zeros he1 hz, hv]
    refine g_aload_n C dX5_takeFromSize_69 rfl ?_
    refine g_iload_n C dX5_takeFromSize_70 rfl ?_
    refine g_callV C (c_X5_trim _ (p := j) hOk wset_s hdh he1 hz hbl) (ci := 7) rfl hOk rfl ml_RX5_30 im_yX5_trim se_RX5_yX5_trim in_RX5 co_yX5_trim hd_X5_trim rfl ⟨by omega, by omega⟩ rfl (Nat.le_of_ble_eq_true rfl) ⟨by omega, by omega⟩ dX5_takeFromSize_71 (fun v71 w71 hp71 => ?_)
    obtain ⟨rfl, u', hw9, hO9, fr9⟩ := hp71
    exact g_return C hQ dX5_takeFromSize_74 (Nat.le_refl _) (Nat.le_refl _) ⟨rfl, h, u', ⟨hO9, by rw [fr9.2 r (Ne.symm hne)]; exact wset_s, hw9, by split <;> omega⟩, hV, ⟨fr9.1, fun x h3 h4 => by rw [fr9.2 x h3, wset_n h4]⟩⟩
  · have hfk := hf.1 j (by omega)
    have hgk := hg.1 j (by omega)
    have hm28 := mod28 (g j - f j - c)
    have hm28e : (g j - f j - c) % B28 = (g j - f j - c) % 268435456 := rfl
    have J62 : ∀ c2 : Int, (c2 = 0 ∧ 0 ≤ g j - f j - c ∨ c2 = 1 ∧ g j - f j - c < 0) → G E X 6 62 [some (.ref a), some (.ref b), some (iI (e : Int)), some (iI c), some (iI (j : Int)), some (iI (g j - f j - c))] [iI c2] (wset w r (true, eI 18 (iup h j ((g j - f j - c) % B28)))) 0 0 := by
      intro c2 hc2
      refine g_istore_n C dX5_takeFromSize_62 (by decide) rfl ?_
      refine g_iinc C dX5_takeFromSize_63 rfl (by decide) rfl ?_
      refine g_goto (tgt := 15) C dX5_takeFromSize_66 (by decide) ?_
      have hsb : (g j - f j - c) % B28 = g j - c - f j + c2 * B28 := by rcases hc2 with ⟨c3, c4⟩ | ⟨c3, c4⟩ <;> (rw [c3]; omega)
      refine g_drop 5 ?_
      exact ih (j + 1, c2, iup h j ((g j - f j - c) % B28)) ⟨by dsimp only; omega, by dsimp only; omega, hdh.up _ hm28, fun i h3 => by dsimp only at h3 ⊢; rw [iup_n (by omega)]; exact hhi i (by omega), sub_step (l' := c2) hv hsb⟩ (by dsimp only; omega)
    refine g_aload_n C dX5_takeFromSize_21 rfl ?_
    refine g_get (ci := 7) C rfl inTX5 0 (by decide) fl_RX5_9 rfl hO2k rfl dX5_takeFromSize_22 ?_
    refine g_iload C dX5_takeFromSize_25 rfl ?_
    refine g_ialoadN (j) C hR2k (by omega) (by omega) dX5_takeFromSize_27 ?_
    refine g_aload_n C dX5_takeFromSize_28 rfl ?_
    refine g_get (ci := 7) C rfl inTX5 0 (by decide) fl_RX5_9 rfl hOk rfl dX5_takeFromSize_29 ?_
    refine g_iload C dX5_takeFromSize_32 rfl ?_
    refine g_ialoadN (j) C wset_s (by omega) (by omega) dX5_takeFromSize_34 ?_
    rw [hhi j (Nat.le_refl _)]
    refine g_isub C dX5_takeFromSize_35 ?_
    refine g_iload_n C dX5_takeFromSize_36 rfl ?_
    refine g_isub C dX5_takeFromSize_37 ?_
    refine g_istore C dX5_takeFromSize_38 (by decide) rfl ?_
    refine g_aload_n C dX5_takeFromSize_40 rfl ?_
    refine g_get (ci := 7) C rfl inTX5 0 (by decide) fl_RX5_9 rfl hOk rfl dX5_takeFromSize_41 ?_
    refine g_iload C dX5_takeFromSize_44 rfl ?_
    refine g_iload C dX5_takeFromSize_46 rfl ?_
    refine g_ldc (z := 268435455) C ko_RX5_69 (by decide) dX5_takeFromSize_48 ?_
    refine g_iand (z := (g j - f j - c) % B28) C dX5_takeFromSize_50 (i_mask 28 (by omega) mask28) ?_
    refine g_iastoreN (j) C wset_s (by omega) (by omega) dX5_takeFromSize_51 ?_
    rw [wset_set]
    refine g_iload C dX5_takeFromSize_52 rfl ?_
    refine g_if_ge (tgt := 61) C dX5_takeFromSize_54 (by decide) (by omega) (fun h54 => ?_) (fun h54 => ?_)
    · refine g_iconst C dX5_takeFromSize_61 ?_
      exact J62 _ (by omega)
    · refine g_iconst C dX5_takeFromSize_57 ?_
      refine g_goto (tgt := 62) C dX5_takeFromSize_58 (by decide) ?_
      exact J62 _ (by omega)
theorem WN.z {f : Nat → Int} {u : Nat} {bl z : Int} (h : WN f u bl z) : bl = 1 ∧ z = -V18 f ∨ bl = 0 ∧ z = V18 f := by
  rcases h.2 with ⟨c1, -, c2⟩ | ⟨c1, c2⟩
  · exact Or.inl ⟨c1, c2⟩
  · exact Or.inr ⟨c1, c2⟩
theorem oW_inj {r s u v : Nat} {x y : Int} (h : some (true, oW r u x) = some (true, oW s v y)) : r = s := by
  simp [oW, eO] at h
  exact h.1
theorem WA.eq {w : Wd} {a r : Nat} {x y : Int} (h : WA w a r x) (e : x = y) : WA w a r y := e ▸ h
theorem if1 (x y : Int) : (if (1 : Int) = 1 then x else y) = x := if_pos rfl
theorem if0 (x y : Int) : (if (0 : Int) = 1 then x else y) = y := if_neg (by decide)
set_option maxHeartbeats 4000000 in
set_option maxRecDepth 100000 in
theorem c_X5_addOrTake (l : Launch) {E : GE} {w : Wd} {a r b s : Nat} {z1 z2 : Int} (h1 : WA w a r z1) (h2 : WA w b s z2) {y : Int} (hy : y = 0 ∨ y = 1) (hrs : r ≠ s) (hab : a ≠ b) (hbd : aB z1 + aB z2 < B28 ^ 18) : Sp E l yX5_addOrTake cX5_addOrTake 4 none 2 (0) (0) [.ref a, .ref b, iI y] w (fun r' w' => r' = none ∧ WA w' a r (if y = 1 then z1 - z2 else z1 + z2) ∧ FrW w w' a r) := by
  refine sp_intro [some (.ref a), some (.ref b), some (iI y), none] rfl (Nat.le_of_ble_eq_true rfl) pn_X5 ?_
  intro X C hRm hl hnm hQ
  obtain ⟨hRf, hRl, hRc, hRs⟩ := hRm
  refine g_wf (fun hwf => ?_)
  obtain ⟨f, u, bl, k1, n1⟩ := h1.ra
  obtain ⟨g, v, bm, k2, n2⟩ := h2.ra
  have hO := k1.1
  have hO2 := k2.1
  have a1 := n1.ab.1
  have a2 := n2.ab.1
  have s1 := n1.z
  have s2 := n2.z
  have hbl := k1.2.2.2
  have hbm := k2.2.2.2
  have hne := k1.ne
  have J13 : ∀ q : Int, (q = 0 ∧ bm = y ∨ q = 1 ∧ bm ≠ y) → G E X 4 13 [some (.ref a), some (.ref b), some (iI y), none] [iI q] w 0 0 := by
    intro q hq
    refine g_istore_n C dX5_addOrTake_13 (by decide) rfl ?_
    refine g_aload_n C dX5_addOrTake_14 rfl ?_
    refine g_get (ci := 7) C rfl inTX5 2 (by decide) fl_RX5_13 rfl hO rfl dX5_addOrTake_15 ?_
    refine g_iload_n C dX5_addOrTake_18 rfl ?_
    refine g_icmp_ne (tgt := 30) C dX5_addOrTake_19 (by decide) (by omega) (by omega) (fun h19 => ?_) (fun h19 => ?_)
    · refine g_aload_n C dX5_addOrTake_30 rfl ?_
      refine g_aload_n C dX5_addOrTake_31 rfl ?_
      refine g_callV C (c_X5_compareSize _ k1 k2) (ci := 7) rfl hO rfl ml_RX5_50 im_yX5_compareSize se_RX5_yX5_compareSize in_RX5 co_yX5_compareSize hd_X5_compareSize rfl ⟨by omega, by omega⟩ rfl (Nat.le_of_ble_eq_true rfl) ⟨by omega, by omega⟩ dX5_addOrTake_32 (fun v32 w32 hp32 => ?_)
      obtain ⟨⟨d32, rfl, hd32⟩, hw32⟩ := hp32
      subst w32
      refine g_if_lt (tgt := 46) C dX5_addOrTake_35 (by decide) (by omega) (fun h35 => ?_) (fun h35 => ?_)
      · refine g_aload_n C dX5_addOrTake_46 rfl ?_
        refine g_iload_n C dX5_addOrTake_47 rfl ?_
        refine g_put (ci := 7) C rfl inTX5 tyX5 tyX5_ok nmX5 2 (by decide) fl_RX5_13 rfl rfl hO (Nat.le_of_ble_eq_true rfl) (by rcases hq with ⟨c, -⟩ | ⟨c, -⟩ <;> (rw [c]; rfl)) (by rcases hq with ⟨c, -⟩ | ⟨c, -⟩ <;> (rw [c]; rfl)) dX5_addOrTake_48 ?_
        have k3 : RA (wset w a (true, eO 7 [.ref r, iI (u : Int), iI q])) a r f u q := ⟨wset_s, by rw [wset_n (Ne.symm hne)]; exact k1.2.1, k1.2.2.1, by omega⟩
        have k4 : RA (wset w a (true, eO 7 [.ref r, iI (u : Int), iI q])) b s g v bm := ⟨by rw [wset_n (Ne.symm hab)]; exact k2.1, by rw [wset_n (Ne.symm (k1.ne2 k2))]; exact k2.2.1, k2.2.2.1, k2.2.2.2⟩
        refine g_aload_n C dX5_addOrTake_51 rfl ?_
        refine g_aload_n C dX5_addOrTake_52 rfl ?_
        refine g_callV C (c_X5_takeFromSize _ (bl := q) k3 k4 hrs (by omega)) (ci := 7) rfl wset_s rfl ml_RX5_57 im_yX5_takeFromSize se_RX5_yX5_takeFromSize in_RX5 co_yX5_takeFromSize hd_X5_takeFromSize rfl ⟨by omega, by omega⟩ rfl (Nat.le_of_ble_eq_true rfl) ⟨by omega, by omega⟩ dX5_addOrTake_53 (fun v53 w53 hp53 => ?_)
        obtain ⟨rfl, f53, u53, r53, v53, fr53⟩ := hp53
        exact g_return C hQ dX5_addOrTake_56 (Nat.le_refl _) (Nat.le_refl _) ⟨rfl, by
          first
          | (have hw := r24.wa hbl
             rw [v24] at hw
             refine hw.eq ?_
             split <;> split <;> omega)
          | (have hw := r40.wa hbl
             rw [v40] at hw
             refine hw.eq ?_
             split <;> split <;> omega)
          | (have hw := r53.wa (by omega)
             rw [v53] at hw
             refine hw.eq ?_
             split <;> split <;> omega), by first | exact fr24 | exact fr40 | exact ((FrW.rf w a r).set (Or.inl rfl) _).tr fr53⟩
      · refine g_aload_n C dX5_addOrTake_38 rfl ?_
        refine g_aload_n C dX5_addOrTake_39 rfl ?_
        refine g_callV C (c_X5_takeSize _ k1 k2 hrs (by omega)) (ci := 7) rfl hO rfl ml_RX5_54 im_yX5_takeSize se_RX5_yX5_takeSize in_RX5 co_yX5_takeSize hd_X5_takeSize rfl ⟨by omega, by omega⟩ rfl (Nat.le_of_ble_eq_true rfl) ⟨by omega, by omega⟩ dX5_addOrTake_40 (fun v40 w40 hp40 => ?_)
        obtain ⟨rfl, f40, u40, r40, v40, fr40⟩ := hp40
        refine g_goto (tgt := 56) C dX5_addOrTake_43 (by decide) ?_
        exact g_return C hQ dX5_addOrTake_56 (Nat.le_refl _) (Nat.le_refl _) ⟨rfl, by
          first
          | (have hw := r24.wa hbl
             rw [v24] at hw
             refine hw.eq ?_
             split <;> split <;> omega)
          | (have hw := r40.wa hbl
             rw [v40] at hw
             refine hw.eq ?_
             split <;> split <;> omega)
          | (have hw := r53.wa (by omega)
             rw [v53] at hw
             refine hw.eq ?_
             split <;> split <;> omega), by first | exact fr24 | exact fr40 | exact ((FrW.rf w a r).set (Or.inl rfl) _).tr fr53⟩
    · refine g_aload_n C dX5_addOrTake_22 rfl ?_
      refine g_aload_n C dX5_addOrTake_23 rfl ?_
      refine g_callV C (c_X5_addSize _ k1 k2 hrs (by omega)) (ci := 7) rfl hO rfl ml_RX5_46 im_yX5_addSize se_RX5_yX5_addSize in_RX5 co_yX5_addSize hd_X5_addSize rfl ⟨by omega, by omega⟩ rfl (Nat.le_of_ble_eq_true rfl) ⟨by omega, by omega⟩ dX5_addOrTake_24 (fun v24 w24 hp24 => ?_)
      obtain ⟨rfl, f24, u24, r24, v24, fr24⟩ := hp24
      refine g_goto (tgt := 56) C dX5_addOrTake_27 (by decide) ?_
      exact g_return C hQ dX5_addOrTake_56 (Nat.le_refl _) (Nat.le_refl _) ⟨rfl, by
        first
        | (have hw := r24.wa hbl
           rw [v24] at hw
           refine hw.eq ?_
           split <;> split <;> omega)
        | (have hw := r40.wa hbl
           rw [v40] at hw
           refine hw.eq ?_
           split <;> split <;> omega)
        | (have hw := r53.wa (by omega)
           rw [v53] at hw
           refine hw.eq ?_
           split <;> split <;> omega), by first | exact fr24 | exact fr40 | exact ((FrW.rf w a r).set (Or.inl rfl) _).tr fr53⟩
  refine g_aload_n C dX5_addOrTake_0 rfl ?_
  refine g_get (ci := 7) C rfl inTX5 2 (by decide) fl_RX5_13 rfl hO2 rfl dX5_addOrTake_1 ?_
  refine g_iload_n C dX5_addOrTake_4 rfl ?_
  refine g_icmp_eq (tgt := 12) C dX5_addOrTake_5 (by decide) (by omega) (by omega) (fun h5 => ?_) (fun h5 => ?_)
  · refine g_iconst C dX5_addOrTake_12 ?_
    exact J13 _ (by omega)
  · refine g_iconst C dX5_addOrTake_8 ?_
    refine g_goto (tgt := 13) C dX5_addOrTake_9 (by decide) ?_
    exact J13 _ (by omega)
set_option maxHeartbeats 4000000 in
set_option maxRecDepth 100000 in
theorem c_X5_compareValue (l : Launch) {E : GE} {w : Wd} {a r b s : Nat} {z1 z2 : Int} (h1 : WA w a r z1) (h2 : WA w b s z2) : Sp E l yX5_compareValue cX5_compareValue 2 (some .int) 2 (0) (0) [.ref a, .ref b] w (fun r' w' => (∃ d : Int, r' = some (iI d) ∧ (z1 < z2 ∧ d = -1 ∨ z1 = z2 ∧ d = 0 ∨ z2 < z1 ∧ d = 1)) ∧ w' = w) := by
  refine sp_intro [some (.ref a), some (.ref b)] rfl (Nat.le_of_ble_eq_true rfl) pn_X5 ?_
  intro X C hRm hl hnm hQ
  obtain ⟨hRf, hRl, hRc, hRs⟩ := hRm
  refine g_wf (fun hwf => ?_)
  obtain ⟨f, u, bl, k1, n1⟩ := h1.ra
  obtain ⟨g, v, bm, k2, n2⟩ := h2.ra
  have hO := k1.1
  have hO2 := k2.1
  have a1 := n1.ab.2.1
  have a2 := n2.ab.2.1
  have s1 := n1.z
  have s2 := n2.z
  refine g_aload_n C dX5_compareValue_0 rfl ?_
  refine g_get (ci := 7) C rfl inTX5 2 (by decide) fl_RX5_13 rfl hO rfl dX5_compareValue_1 ?_
  refine g_aload_n C dX5_compareValue_4 rfl ?_
  refine g_get (ci := 7) C rfl inTX5 2 (by decide) fl_RX5_13 rfl hO2 rfl dX5_compareValue_5 ?_
  refine g_icmp_eq (tgt := 24) C dX5_compareValue_8 (by decide) (by omega) (by omega) (fun h8 => ?_) (fun h8 => ?_)
  · refine g_aload_n C dX5_compareValue_24 rfl ?_
    refine g_get (ci := 7) C rfl inTX5 2 (by decide) fl_RX5_13 rfl hO rfl dX5_compareValue_25 ?_
    refine g_if_eq (tgt := 40) C dX5_compareValue_28 (by decide) (by omega) (fun h28 => ?_) (fun h28 => ?_)
    · refine g_aload_n C dX5_compareValue_40 rfl ?_
      refine g_aload_n C dX5_compareValue_41 rfl ?_
      refine g_callV C (c_X5_compareSize _ k1 k2) (ci := 7) rfl hO rfl ml_RX5_50 im_yX5_compareSize se_RX5_yX5_compareSize in_RX5 co_yX5_compareSize hd_X5_compareSize rfl ⟨by omega, by omega⟩ rfl (Nat.le_of_ble_eq_true rfl) ⟨by omega, by omega⟩ dX5_compareValue_42 (fun v42 w42 hp42 => ?_)
      obtain ⟨⟨d, rfl, hd⟩, hw42⟩ := hp42
      subst w42
      exact g_ireturn C hQ dX5_compareValue_45 (Nat.le_refl _) (Nat.le_refl _) ⟨⟨_, rfl, by omega⟩, rfl⟩
    · refine g_aload_n C dX5_compareValue_31 rfl ?_
      refine g_aload_n C dX5_compareValue_32 rfl ?_
      refine g_callV C (c_X5_compareSize _ k1 k2) (ci := 7) rfl hO rfl ml_RX5_50 im_yX5_compareSize se_RX5_yX5_compareSize in_RX5 co_yX5_compareSize hd_X5_compareSize rfl ⟨by omega, by omega⟩ rfl (Nat.le_of_ble_eq_true rfl) ⟨by omega, by omega⟩ dX5_compareValue_33 (fun v33 w33 hp33 => ?_)
      obtain ⟨⟨d, rfl, hd⟩, hw33⟩ := hp33
      subst w33
      refine g_ineg C dX5_compareValue_36 ?_
      refine g_goto (tgt := 45) C dX5_compareValue_37 (by decide) ?_
      exact g_ireturn C hQ dX5_compareValue_45 (Nat.le_refl _) (Nat.le_refl _) ⟨⟨_, rfl, by omega⟩, rfl⟩
  · refine g_aload_n C dX5_compareValue_11 rfl ?_
    refine g_get (ci := 7) C rfl inTX5 2 (by decide) fl_RX5_13 rfl hO rfl dX5_compareValue_12 ?_
    refine g_if_eq (tgt := 22) C dX5_compareValue_15 (by decide) (by omega) (fun h15 => ?_) (fun h15 => ?_)
    · refine g_iconst C dX5_compareValue_22 ?_
      exact g_ireturn C hQ dX5_compareValue_23 (Nat.le_refl _) (Nat.le_refl _) ⟨⟨_, rfl, by omega⟩, rfl⟩
    · refine g_iconst C dX5_compareValue_18 ?_
      refine g_goto (tgt := 23) C dX5_compareValue_19 (by decide) ?_
      exact g_ireturn C hQ dX5_compareValue_23 (Nat.le_refl _) (Nat.le_refl _) ⟨⟨_, rfl, by omega⟩, rfl⟩
set_option maxHeartbeats 4000000 in
set_option maxRecDepth 100000 in
theorem c_X5_setWhole (l : Launch) {E : GE} {w : Wd} {a r b s : Nat} {z1 z2 : Int} (h1 : WA w a r z1) (h2 : WA w b s z2) (hrs : r ≠ s) : Sp E l yX5_setWhole cX5_setWhole 2 none 1 (0) (0) [.ref a, .ref b] w (fun r' w' => r' = none ∧ WA w' a r z2 ∧ FrW w w' a r) := by
  refine sp_intro [some (.ref a), some (.ref b)] rfl (Nat.le_of_ble_eq_true rfl) pn_X5 ?_
  intro X C hRm hl hnm hQ
  obtain ⟨hRf, hRl, hRc, hRs⟩ := hRm
  refine g_wf (fun hwf => ?_)
  obtain ⟨f, u, bl, k1, n1⟩ := h1.ra
  obtain ⟨g, v, bm, k2, n2⟩ := h2.ra
  obtain ⟨hO, hR, -, -⟩ := id k1
  obtain ⟨hO2, hR2, hg, hbm⟩ := id k2
  have hne := k1.ne
  have hn12 := k1.ne2 k2
  have hn21 := k2.ne2 k1
  have hcp : ∀ i, i < 18 → cpyI g f (0 : Int).toNat (0 : Int).toNat (18 : Int).toNat i = g i := fun i hi => by
    show (if 0 ≤ i ∧ i < 0 + 18 then g (0 + (i - 0)) else f i) = g i
    rw [if_pos ⟨Nat.zero_le _, by omega⟩, Nat.zero_add, Nat.sub_zero]
  have hW9 : WN (cpyI g f (0 : Int).toNat (0 : Int).toNat (18 : Int).toNat) v bm z2 := by
    generalize cpyI g f (0 : Int).toNat (0 : Int).toNat (18 : Int).toNat = c at hcp
    have hV : V18 c = V18 g := nv_congr hcp
    obtain ⟨⟨q1, q2, q3, q4⟩, q5⟩ := n2
    refine ⟨⟨fun i hi => by rw [hcp i hi]; exact q1 i hi, q2, fun i h3 h4 => by rw [hcp i h4]; exact q3 i h3 h4, fun h3 => by rw [hcp _ (by omega)]; exact q4 h3⟩, ?_⟩
    rw [hV]; exact q5
  refine g_aload_n C dX5_setWhole_0 rfl ?_
  refine g_get (ci := 7) C rfl inTX5 0 (by decide) fl_RX5_9 rfl hO2 rfl dX5_setWhole_1 ?_
  refine g_iconst C dX5_setWhole_4 ?_
  refine g_aload_n C dX5_setWhole_5 rfl ?_
  refine g_get (ci := 7) C rfl inTX5 0 (by decide) fl_RX5_9 rfl hO rfl dX5_setWhole_6 ?_
  refine g_iconst C dX5_setWhole_9 ?_
  refine g_bipush C dX5_setWhole_10 (by decide) ?_
  refine g_acopyI C (f := g) (g := f) ⟨hR2, hR, by omega⟩ ml_RX5_34 (by omega) (by omega) (Nat.le_of_ble_eq_true rfl) dX5_setWhole_12 ?_
  refine g_aload_n C dX5_setWhole_15 rfl ?_
  refine g_aload_n C dX5_setWhole_16 rfl ?_
  refine g_get (ci := 7) C rfl inTX5 1 (by decide) fl_RX5_17 rfl (by rw [wset_n hn21]; exact hO2) rfl dX5_setWhole_17 ?_
  refine g_put (ci := 7) C rfl inTX5 tyX5 tyX5_ok nmX5 1 (by decide) fl_RX5_17 rfl rfl (by rw [wset_n hne]; exact hO) (Nat.le_of_ble_eq_true rfl) rfl rfl dX5_setWhole_20 ?_
  generalize hX : cpyI g f (0 : Int).toNat (0 : Int).toNat (18 : Int).toNat = c9 at *
  have hOa : (wset (wset w r (true, eI 18 c9)) a (true, eO 7 [.ref r, iI (v : Int), iI bl])).2 a = some (true, eO 7 [.ref r, iI (v : Int), iI bl]) := wset_s
  have hOb : ∃ vv : Nat, (wset (wset w r (true, eI 18 c9)) a (true, eO 7 [.ref r, iI (v : Int), iI bl])).2 b = some (true, oW s vv bm) := by
    by_cases c : b = a
    · rw [c, wset_s]
      rw [c] at hO2
      rw [hO] at hO2
      exact absurd (oW_inj hO2) hrs
    · exact ⟨v, by rw [wset_n c, wset_n hn21]; exact hO2⟩
  obtain ⟨vv, hOb⟩ := hOb
  refine g_aload_n C dX5_setWhole_23 rfl ?_
  refine g_aload_n C dX5_setWhole_24 rfl ?_
  refine g_get (ci := 7) C rfl inTX5 2 (by decide) fl_RX5_13 rfl hOb rfl dX5_setWhole_25 ?_
  refine g_put (ci := 7) C rfl inTX5 tyX5 tyX5_ok nmX5 2 (by decide) fl_RX5_13 rfl rfl hOa (Nat.le_of_ble_eq_true rfl) (by rcases hbm with c | c <;> (rw [c]; rfl)) (by rcases hbm with c | c <;> (rw [c]; rfl)) dX5_setWhole_28 ?_
  exact g_return C hQ dX5_setWhole_31 (Nat.le_refl _) (Nat.le_refl _) ⟨rfl, ⟨_, v, bm, wset_s, by rw [wset_n (Ne.symm hne), wset_n (Ne.symm hne)]; exact wset_s, hW9⟩, (((FrW.rf w a r).set (Or.inr rfl) _).set (Or.inl rfl) _).set (Or.inl rfl) _⟩
set_option maxHeartbeats 4000000 in
set_option maxRecDepth 100000 in
theorem c_X5_setNumber (l : Launch) {E : GE} {w : Wd} {a r : Nat} {z x : Int} (hW : WA w a r z) (hx : -9223372036854775808 < x ∧ x < 9223372036854775808) : Sp E l yX5_setNumber cX5_setNumber 6 none 2 (0) (0) [.ref a, jJ x] w (fun r' w' => r' = none ∧ WA w' a r x ∧ FrW w w' a r) := by
  refine sp_intro [some (.ref a), some (jJ x), none, none, none, none] rfl (Nat.le_of_ble_eq_true rfl) pn_X5 ?_
  intro X C hRm hl hnm hQ
  obtain ⟨hRf, hRl, hRc, hRs⟩ := hRm
  refine g_wf (fun hwf => ?_)
  obtain ⟨f, u, bl, k1, n1⟩ := hW.ra
  have hO := k1.1
  have hR := k1.2.1
  have hne := k1.ne
  refine g_aload_n C dX5_setNumber_0 rfl ?_
  refine g_callV C (c_X5_clear _ hO hR) (ci := 7) rfl hO rfl ml_RX5_25 im_yX5_clear se_RX5_yX5_clear in_RX5 co_yX5_clear hd_X5_clear rfl ⟨by omega, by omega⟩ rfl (Nat.le_of_ble_eq_true rfl) ⟨by omega, by omega⟩ dX5_setNumber_1 (fun v1 w1 hp1 => ?_)
  obtain ⟨rfl, g1, hO1, hR1, hg1, fr1⟩ := hp1
  have J16 : ∀ q : Int, (q = 1 ∧ x < 0 ∨ q = 0 ∧ 0 ≤ x) → G E X 6 16 [some (.ref a), some (jJ x), none, none, none, none] [iI q, .ref a] w1 0 0 := by
    intro q hq
    refine g_put (ci := 7) C rfl inTX5 tyX5 tyX5_ok nmX5 2 (by decide) fl_RX5_13 rfl rfl hO1 (Nat.le_of_ble_eq_true rfl) (by rcases hq with ⟨c, -⟩ | ⟨c, -⟩ <;> (rw [c]; rfl)) (by rcases hq with ⟨c, -⟩ | ⟨c, -⟩ <;> (rw [c]; rfl)) dX5_setNumber_16 ?_
    obtain ⟨w2, hw0⟩ : ∃ w2, w2 = wset w1 a (true, eO 7 [.ref r, iI 0, iI q]) := ⟨_, rfl⟩
    refine g_eqw (w' := w2) hw0.symm ?_
    have hO2 : w2.2 a = some (true, eO 7 [.ref r, iI 0, iI q]) := by rw [hw0]; exact wset_s
    have hR2 : w2.2 r = some (true, eI 18 g1) := by rw [hw0, wset_n (Ne.symm hne)]; exact hR1
    have fr2 : FrW w w2 a r := by rw [hw0]; exact fr1.set (Or.inl rfl) _
    have hq01 : q = 0 ∨ q = 1 := by omega
    have J32 : G E X 6 32 [some (.ref a), some (jJ x), none, none, none, none] [jJ (aB x)] w2 0 0 := by
      refine g_lstore_n C dX5_setNumber_32 (by decide) rfl ?_
      refine g_iconst C dX5_setNumber_33 ?_
      refine g_istore C dX5_setNumber_34 (by decide) rfl ?_
      have J73 : ∀ (k : Nat) (lf : Int) (h : Nat → Int), DC h → V18 h = aB x → G E X 6 73 [some (.ref a), some (jJ x), none, some (jJ lf), none, some (iI (k : Int))] [] (wset w2 r (true, eI 18 h)) 0 0 := by
        intro k lf h hdh hV
        have hOk : (wset w2 r (true, eI 18 h)).2 a = some (true, eO 7 [.ref r, iI 0, iI q]) := by rw [wset_n hne]; exact hO2
        refine g_aload_n C dX5_setNumber_73 rfl ?_
        refine g_bipush C dX5_setNumber_74 (by decide) ?_
        refine g_callV C (c_X5_trim _ (p := 18) hOk wset_s hdh (Nat.le_refl _) (fun i h3 h4 => by omega) hq01) (ci := 7) rfl hOk rfl ml_RX5_30 im_yX5_trim se_RX5_yX5_trim in_RX5 co_yX5_trim hd_X5_trim rfl ⟨by omega, by omega⟩ rfl (Nat.le_of_ble_eq_true rfl) ⟨by omega, by omega⟩ dX5_setNumber_76 (fun v76 w76 hp76 => ?_)
        obtain ⟨rfl, u', hw9, hO9, fr9⟩ := hp76
        exact g_return C hQ dX5_setNumber_79 (Nat.le_refl _) (Nat.le_refl _) ⟨rfl, by
          have k9 : RA w76 a r h u' (if 0 < u' then q else 0) := ⟨hO9, by rw [fr9.2 r (Ne.symm hne)]; exact wset_s, hw9, by split <;> omega⟩
          have := k9.wa hq01
          rw [hV] at this
          refine this.eq ?_
          unfold aB
          split <;> split <;> omega, ⟨fr9.1.trans fr2.1, fun y h3 h4 => by rw [fr9.2 y h3, wset_n h4]; exact fr2.2 y h3 h4⟩⟩
      suffices hh : G E X 6 36 [some (.ref a), some (jJ x), none, some (jJ (aB x)), none, some (iI ((0 : Nat) : Int))] [] (wset w2 r (true, eI 18 g1)) 0 0 by rw [wset_id hR2] at hh; exact hh
      refine g_loop (σ := Nat × Int × (Nat → Int)) (fun t => t.1 ≤ 18 ∧ 0 ≤ t.2.1 ∧ (t.1 = 0 → t.2.1 < 9223372036854775808) ∧ (t.1 = 1 → t.2.1 < 34359738368) ∧ (t.1 = 2 → t.2.1 < 128) ∧ (3 ≤ t.1 → t.2.1 = 0) ∧ DC t.2.2 ∧ (∀ i, t.1 ≤ i → i < 18 → t.2.2 i = 0) ∧ nv B28 t.2.2 t.1 + t.2.1 * B28 ^ t.1 = aB x) (fun t => G E X 6 36 [some (.ref a), some (jJ x), none, some (jJ t.2.1), none, some (iI (t.1 : Int))] [] (wset w2 r (true, eI 18 t.2.2)) 0 0) (fun t => 18 - t.1) ?_ (0, aB x, g1) ⟨by dsimp only; omega, by dsimp only; unfold aB; split <;> omega, fun _ => by dsimp only; unfold aB; split <;> omega, fun c => by dsimp only at c; omega, fun c => by dsimp only at c; omega, fun c => by dsimp only at c; omega, fun i hi => by dsimp only; rw [hg1 i hi]; decide, fun i _ hi => hg1 i hi, by show (0 : Int) + aB x * B28 ^ 0 = aB x; rw [Int.pow_zero]; omega⟩
      rintro ⟨j, lf, h⟩ hq9 ih
      obtain ⟨hj, hl0, hl1, hl2, hl3, hl4, hdh, hhi, hv⟩ := hq9
      dsimp only at hj hl0 hl1 hl2 hl3 hl4 hdh hhi hv ⊢
      have hOk : (wset w2 r (true, eI 18 h)).2 a = some (true, eO 7 [.ref r, iI 0, iI q]) := by rw [wset_n hne]; exact hO2
      have hVk : lf = 0 → V18 h = aB x := fun c => by
        rw [c, Int.zero_mul, Int.add_zero] at hv
        rw [← hv]
        exact nv_zeros hj hhi
      have hm28 := mod28 lf
      have hd28e : lf / B28 = lf / 268435456 := rfl
      refine g_iload C dX5_setNumber_36 rfl ?_
      refine g_bipush C dX5_setNumber_38 (by decide) ?_
      refine g_icmp_ge (tgt := 73) C dX5_setNumber_40 (by decide) (by omega) (by omega) (fun h40 => ?_) (fun h40 => ?_)
      · exact J73 j lf h hdh (hVk (by omega))
      · refine g_lload_n C dX5_setNumber_43 rfl ?_
        refine g_lconst (z := 0) C dX5_setNumber_44 (by decide) ?_
        refine g_lcmp C dX5_setNumber_45 (by omega) (by omega) (fun c45 hc45 => ?_)
        refine g_if_eq (tgt := 73) C dX5_setNumber_46 (by decide) (by omega) (fun h46 => ?_) (fun h46 => ?_)
        · exact J73 j lf h hdh (hVk (by omega))
        · refine g_aload_n C dX5_setNumber_49 rfl ?_
          refine g_get (ci := 7) C rfl inTX5 0 (by decide) fl_RX5_9 rfl hOk rfl dX5_setNumber_50 ?_
          refine g_iload C dX5_setNumber_53 rfl ?_
          refine g_lload_n C dX5_setNumber_55 rfl ?_
          refine g_ldc2 (z := 268435455) C kj_RX5_28 (by decide) dX5_setNumber_56 ?_
          refine g_land (z := lf % B28) C dX5_setNumber_59 (j_mask 28 (by omega) mask28) ?_
          refine g_l2i C dX5_setNumber_60 ?_
          refine g_iastoreN (j) C wset_s (by omega) (by omega) dX5_setNumber_61 ?_
          rw [wset_set]
          refine g_lload_n C dX5_setNumber_62 rfl ?_
          refine g_bipush C dX5_setNumber_63 (by decide) ?_
          refine g_lushr (z := lf / B28) C dX5_setNumber_65 (j_ushr 28 (by omega) (by omega) (by decide)) ?_
          refine g_lstore_n C dX5_setNumber_66 (by decide) rfl ?_
          refine g_iinc C dX5_setNumber_67 rfl (by decide) rfl ?_
          refine g_goto (tgt := 36) C dX5_setNumber_70 (by decide) ?_
          refine ih (j + 1, lf / B28, iup h j (lf % B28)) ⟨by dsimp only; omega, by dsimp only; omega, fun c => by dsimp only at c; omega, fun c => by dsimp only at c ⊢; omega, fun c => by dsimp only at c ⊢; omega, fun c => by dsimp only at c ⊢; omega, hdh.up _ hm28, fun i h3 h4 => by dsimp only at h3 ⊢; rw [iup_n (by omega)]; exact hhi i (by omega) h4, dig_step (by decide) hv⟩ (by dsimp only; omega)
    refine g_aload_n C dX5_setNumber_19 rfl ?_
    refine g_get (ci := 7) C rfl inTX5 2 (by decide) fl_RX5_13 rfl hO2 rfl dX5_setNumber_20 ?_
    refine g_if_eq (tgt := 31) C dX5_setNumber_23 (by decide) (by omega) (fun h23 => ?_) (fun h23 => ?_)
    · refine g_lload_n C dX5_setNumber_31 rfl ?_
      first | exact g_eq rfl (by rw [show aB x = -x by unfold aB; rw [if_pos (by omega)]]) J32 | exact g_eq rfl (by rw [show aB x = x by unfold aB; rw [if_neg (by omega)]]) J32
    · refine g_lload_n C dX5_setNumber_26 rfl ?_
      refine g_lneg C dX5_setNumber_27 ?_
      refine g_goto (tgt := 32) C dX5_setNumber_28 (by decide) ?_
      first | exact g_eq rfl (by rw [show aB x = -x by unfold aB; rw [if_pos (by omega)]]) J32 | exact g_eq rfl (by rw [show aB x = x by unfold aB; rw [if_neg (by omega)]]) J32
  refine g_aload_n C dX5_setNumber_4 rfl ?_
  refine g_lload_n C dX5_setNumber_5 rfl ?_
  refine g_lconst (z := 0) C dX5_setNumber_6 (by decide) ?_
  refine g_lcmp C dX5_setNumber_7 (by omega) (by omega) (fun c7 hc7 => ?_)
  refine g_if_ge (tgt := 15) C dX5_setNumber_8 (by decide) (by omega) (fun h8 => ?_) (fun h8 => ?_)
  · refine g_iconst C dX5_setNumber_15 ?_
    exact J16 _ (by omega)
  · refine g_iconst C dX5_setNumber_11 ?_
    refine g_goto (tgt := 16) C dX5_setNumber_12 (by decide) ?_
    exact J16 _ (by omega)
/-! the class's own numbers by their shape -/
def WS (w : Wd) (a r : Nat) : Prop := ∃ (f : Nat → Int) (u : Nat) (bl : Int), w.2 a = some (true, oW r u bl) ∧ w.2 r = some (true, eI 18 f) ∧ DC f ∧ u ≤ 18 ∧ (bl = 0 ∨ bl = 1)
theorem oI_ne {w : Wd} {a s r u n : Nat} {bl : Int} {f : Nat → Int} {b1 b2 : Bool} (h : w.2 a = some (b1, oW r u bl)) (k : w.2 s = some (b2, eI n f)) : a ≠ s := fun e => by rw [e, k] at h; simp [oW] at h
theorem oo_ne {w : Wd} {a b r s u v : Nat} {bl bm : Int} (h : w.2 a = some (true, oW r u bl)) (k : w.2 b = some (true, oW s v bm)) (hrs : r ≠ s) : a ≠ b := fun e => by rw [e, k] at h; exact hrs (oW_inj h).symm
theorem WS.fr {w u : Wd} {a r b s : Nat} (h : WS w a r) (g : FrW w u b s) (h1 : a ≠ b) (h2 : r ≠ s) (h3 : a ≠ s) (h4 : r ≠ b) : WS u a r := by
  obtain ⟨f, uu, bl, e1, e2, e3⟩ := h
  exact ⟨f, uu, bl, by rw [g.2 a h1 h3]; exact e1, by rw [g.2 r h4 h2]; exact e2, e3⟩
theorem WS.ne {w : Wd} {a r b s : Nat} (h : WS w a r) (g : WS w b s) (hrs : r ≠ s) : a ≠ b ∧ a ≠ s ∧ r ≠ b ∧ a ≠ r ∧ b ≠ s := by
  obtain ⟨f, u, bl, h1, h2, -⟩ := h
  obtain ⟨f2, u2, bl2, g1, g2, -⟩ := g
  exact ⟨oo_ne h1 g1 hrs, oI_ne h1 g2, Ne.symm (oI_ne g1 h2), oI_ne h1 h2, oI_ne g1 g2⟩
theorem WS.fr2 {w u : Wd} {a r b s : Nat} (h : WS w b s) (k : WS w a r) (g : FrW w u a r) (hrs : r ≠ s) : WS u b s := by
  obtain ⟨h1, h2, h3, h4, h5⟩ := k.ne h hrs
  exact h.fr g (Ne.symm h1) (Ne.symm hrs) (Ne.symm h3) (Ne.symm h2)
set_option maxHeartbeats 4000000 in
set_option maxRecDepth 100000 in
theorem s_X5_init (l : Launch) {E : GE} {w : Wd} {a : Nat} (hN : w.2 a = some (true, eO 7 [.null, iI 0, iI 0])) : Sp E l yX5_init cX5_init 1 none 1 (1) (18) [.ref a] w (fun r' w' => r' = none ∧ w' = wset (wpush w (true, eI 18 (fun _ => 0))) a (true, oW w.1 0 0)) := by
  refine sp_intro [some (.ref a)] rfl (Nat.le_of_ble_eq_true rfl) pn_X5 ?_
  intro X C hRm hl hnm hQ
  obtain ⟨hRf, hRl, hRc, hRs⟩ := hRm
  refine g_wf (fun hwf => ?_)
  have haw : a < w.1 := hwf a _ hN
  refine g_aload_n C dX5_init_0 rfl ?_
  refine g_objInit C ml_RX5_3 (by omega) (by omega) (Nat.le_of_ble_eq_true rfl) dX5_init_1 ?_
  refine g_aload_n C dX5_init_4 rfl ?_
  refine g_bipush C dX5_init_5 (by decide) ?_
  refine g_newI C gw_arrayClass_int (N := 18) rfl (by omega) (by omega) dX5_init_7 ?_
  refine g_putF (ci := 7) C rfl inTX5 tyX5 tyX5_ok nmX5 0 (by decide) fl_RX5_9 rfl rfl hnm rfl (by rw [wpush_n (by omega)]; exact hN) (Nat.le_of_ble_eq_true rfl) rfl rfl dX5_init_9 ?_
  exact g_return C hQ dX5_init_12 (Nat.le_refl _) (Nat.le_refl _) ⟨rfl, rfl⟩
set_option maxHeartbeats 4000000 in
set_option maxRecDepth 100000 in
theorem s_X5_trim (l : Launch) {E : GE} {w : Wd} {a r p : Nat} {f : Nat → Int} {u bl : Int} (hO : w.2 a = some (true, eO 7 [.ref r, iI u, iI bl])) (hR : w.2 r = some (true, eI 18 f)) (hf : DC f) (hp : p ≤ 18) (hbl : bl = 0 ∨ bl = 1) : Sp E l yX5_trim cX5_trim 3 none 0 (0) (0) [.ref a, iI (p : Int)] w (fun r' w' => r' = none ∧ WS w' a r ∧ FrA w w' a) := by
  refine sp_intro [some (.ref a), some (iI (p : Int)), none] rfl (Nat.le_of_ble_eq_true rfl) pn_X5 ?_
  intro X C hRm hl hnm hQ
  obtain ⟨hRf, hRl, hRc, hRs⟩ := hRm
  refine g_wf (fun hwf => ?_)
  have hB28 : B28 = 268435456 := rfl
  have hne : a ≠ r := fun e => by rw [e, hR] at hO; simp at hO
  refine g_aload_n C dX5_trim_0 rfl ?_
  refine g_iconst C dX5_trim_1 ?_
  refine g_put (ci := 7) C rfl inTX5 tyX5 tyX5_ok nmX5 1 (by decide) fl_RX5_17 rfl rfl hO (Nat.le_of_ble_eq_true rfl) rfl rfl dX5_trim_2 ?_
  have J17 : G E X 3 17 [some (.ref a), some (iI (p : Int)), none] [iI (p : Int)] (wset w a (true, eO 7 [.ref r, iI 0, iI bl])) 0 0 := by
    refine g_iconst C dX5_trim_17 ?_
    refine g_isub C dX5_trim_18 ?_
    refine g_istore_n C dX5_trim_19 (by decide) rfl ?_
    refine g_loop (σ := Int × Nat) (fun s => -1 ≤ s.1 ∧ s.1 ≤ 17 ∧ s.2 ≤ 18) (fun s => G E X 3 20 [some (.ref a), some (iI (p : Int)), some (iI s.1)] [] (wset w a (true, eO 7 [.ref r, iI (s.2 : Int), iI bl])) 0 0) (fun s => (s.1 + 1).toNat) ?_ ((p : Int) - 1, 0) ⟨by dsimp only; omega, by dsimp only; omega, by dsimp only; omega⟩
    rintro ⟨k, v⟩ hq ih
    obtain ⟨hk0, hk1, hv⟩ := hq
    dsimp only at hk0 hk1 hv ⊢
    have hRk : (wset w a (true, eO 7 [.ref r, iI (v : Int), iI bl])).2 r = some (true, eI 18 f) := by rw [wset_n (Ne.symm hne)]; exact hR
    have J53 : G E X 3 53 [some (.ref a), some (iI (p : Int)), some (iI k)] [] (wset w a (true, eO 7 [.ref r, iI (v : Int), iI bl])) 0 0 := by
      refine g_aload_n C dX5_trim_53 rfl ?_
      refine g_aload_n C dX5_trim_54 rfl ?_
      refine g_get (ci := 7) C rfl inTX5 2 (by decide) fl_RX5_13 rfl wset_s rfl dX5_trim_55 ?_
      refine g_if_eq (tgt := 72) C dX5_trim_58 (by decide) (by omega) (fun h58 => ?_) (fun h58 => ?_)
      · refine g_iconst C dX5_trim_72 ?_
        refine g_put (ci := 7) C rfl inTX5 tyX5 tyX5_ok nmX5 2 (by decide) fl_RX5_13 rfl rfl wset_s (Nat.le_of_ble_eq_true rfl) rfl rfl dX5_trim_73 ?_
        exact g_return C hQ dX5_trim_76 (Nat.le_refl _) (Nat.le_refl _) ⟨rfl, ⟨f, v, _, wset_s, by rw [wset_n (Ne.symm hne)]; exact hRk, hf, hv, by first | exact Or.inr rfl | exact Or.inl rfl⟩, ((FrA.rf _ _).set _).set _⟩
      · refine g_aload_n C dX5_trim_61 rfl ?_
        refine g_get (ci := 7) C rfl inTX5 1 (by decide) fl_RX5_17 rfl wset_s rfl dX5_trim_62 ?_
        refine g_if_le (tgt := 72) C dX5_trim_65 (by decide) (by omega) (fun h65 => ?_) (fun h65 => ?_)
        · refine g_iconst C dX5_trim_72 ?_
          refine g_put (ci := 7) C rfl inTX5 tyX5 tyX5_ok nmX5 2 (by decide) fl_RX5_13 rfl rfl wset_s (Nat.le_of_ble_eq_true rfl) rfl rfl dX5_trim_73 ?_
          exact g_return C hQ dX5_trim_76 (Nat.le_refl _) (Nat.le_refl _) ⟨rfl, ⟨f, v, _, wset_s, by rw [wset_n (Ne.symm hne)]; exact hRk, hf, hv, by first | exact Or.inr rfl | exact Or.inl rfl⟩, ((FrA.rf _ _).set _).set _⟩
        · refine g_iconst C dX5_trim_68 ?_
          refine g_goto (tgt := 73) C dX5_trim_69 (by decide) ?_
          refine g_put (ci := 7) C rfl inTX5 tyX5 tyX5_ok nmX5 2 (by decide) fl_RX5_13 rfl rfl wset_s (Nat.le_of_ble_eq_true rfl) rfl rfl dX5_trim_73 ?_
          exact g_return C hQ dX5_trim_76 (Nat.le_refl _) (Nat.le_refl _) ⟨rfl, ⟨f, v, _, wset_s, by rw [wset_n (Ne.symm hne)]; exact hRk, hf, hv, by first | exact Or.inr rfl | exact Or.inl rfl⟩, ((FrA.rf _ _).set _).set _⟩
    refine g_iload_n C dX5_trim_20 rfl ?_
    refine g_if_lt (tgt := 53) C dX5_trim_21 (by decide) (by omega) (fun h21 => ?_) (fun h21 => ?_)
    · exact J53
    · refine g_aload_n C dX5_trim_24 rfl ?_
      refine g_get (ci := 7) C rfl inTX5 1 (by decide) fl_RX5_17 rfl wset_s rfl dX5_trim_25 ?_
      refine g_if_ne (tgt := 53) C dX5_trim_28 (by decide) (by omega) (fun h28 => ?_) (fun h28 => ?_)
      · exact J53
      · refine g_aload_n C dX5_trim_31 rfl ?_
        refine g_get (ci := 7) C rfl inTX5 0 (by decide) fl_RX5_9 rfl wset_s rfl dX5_trim_32 ?_
        refine g_iload_n C dX5_trim_35 rfl ?_
        refine g_iaload C hRk (by omega) dX5_trim_36 ?_
        refine g_if_eq (tgt := 47) C dX5_trim_37 (by decide) (by have := hf k.toNat (by omega); omega) (fun h37 => ?_) (fun h37 => ?_)
        · refine g_iinc C dX5_trim_47 rfl (by decide) rfl ?_
          refine g_goto (tgt := 20) C dX5_trim_50 (by decide) ?_
          first
          | exact ih (k + -1, v) ⟨by dsimp only; omega, by dsimp only; omega, hv⟩ (by dsimp only; omega)
          | (rw [show k + 1 = ((k.toNat + 1 : Nat) : Int) by omega]
             exact ih (k + -1, k.toNat + 1) ⟨by dsimp only; omega, by dsimp only; omega, by dsimp only; omega⟩ (by dsimp only; omega))
        · refine g_aload_n C dX5_trim_40 rfl ?_
          refine g_iload_n C dX5_trim_41 rfl ?_
          refine g_iconst C dX5_trim_42 ?_
          refine g_iadd C dX5_trim_43 ?_
          refine g_put (ci := 7) C rfl inTX5 tyX5 tyX5_ok nmX5 1 (by decide) fl_RX5_17 rfl rfl wset_s (Nat.le_of_ble_eq_true rfl) rfl rfl dX5_trim_44 ?_
          rw [wset_set]
          refine g_iinc C dX5_trim_47 rfl (by decide) rfl ?_
          refine g_goto (tgt := 20) C dX5_trim_50 (by decide) ?_
          first
          | exact ih (k + -1, v) ⟨by dsimp only; omega, by dsimp only; omega, hv⟩ (by dsimp only; omega)
          | (rw [show k + 1 = ((k.toNat + 1 : Nat) : Int) by omega]
             exact ih (k + -1, k.toNat + 1) ⟨by dsimp only; omega, by dsimp only; omega, by dsimp only; omega⟩ (by dsimp only; omega))
  refine g_iload_n C dX5_trim_5 rfl ?_
  refine g_bipush C dX5_trim_6 (by decide) ?_
  refine g_icmp_ge (tgt := 15) C dX5_trim_8 (by decide) (by omega) (by omega) (fun h8 => ?_) (fun h8 => ?_)
  · refine g_bipush C dX5_trim_15 (by decide) ?_
    first | exact J17 | exact g_eq rfl (by rw [show (18 : Int) = (p : Int) by omega]) J17
  · refine g_iload_n C dX5_trim_11 rfl ?_
    refine g_goto (tgt := 17) C dX5_trim_12 (by decide) ?_
    first | exact J17 | exact g_eq rfl (by rw [show (18 : Int) = (p : Int) by omega]) J17
set_option maxHeartbeats 4000000 in
set_option maxRecDepth 100000 in
theorem s_X5_isBelow (l : Launch) {E : GE} {w : Wd} {a r : Nat} (hW : WS w a r) : Sp E l yX5_isBelow cX5_isBelow 1 (some .boolean) 0 (0) (0) [.ref a] w (fun r' w' => (∃ d : Int, r' = some (iI d) ∧ (d = 0 ∨ d = 1)) ∧ w' = w) := by
  refine sp_intro [some (.ref a)] rfl (Nat.le_of_ble_eq_true rfl) pn_X5 ?_
  intro X C hRm hl hnm hQ
  obtain ⟨hRf, hRl, hRc, hRs⟩ := hRm
  refine g_wf (fun hwf => ?_)
  have hB28 : B28 = 268435456 := rfl
  obtain ⟨f, u, bl, hO, hR, hf, hu18, hbl⟩ := id hW
  have hne := oI_ne hO hR
  refine g_aload_n C dX5_isBelow_0 rfl ?_
  refine g_get (ci := 7) C rfl inTX5 2 (by decide) fl_RX5_13 rfl hO rfl dX5_isBelow_1 ?_
  exact g_zreturn C hQ dX5_isBelow_4 (nar01 (by omega)) (Nat.le_refl _) (Nat.le_refl _) ⟨⟨bl, rfl, hbl⟩, rfl⟩
set_option maxHeartbeats 4000000 in
set_option maxRecDepth 100000 in
theorem s_X5_isZero (l : Launch) {E : GE} {w : Wd} {a r : Nat} (hW : WS w a r) : Sp E l yX5_isZero cX5_isZero 1 (some .boolean) 0 (0) (0) [.ref a] w (fun r' w' => (∃ d : Int, r' = some (iI d) ∧ (d = 0 ∨ d = 1)) ∧ w' = w) := by
  refine sp_intro [some (.ref a)] rfl (Nat.le_of_ble_eq_true rfl) pn_X5 ?_
  intro X C hRm hl hnm hQ
  obtain ⟨hRf, hRl, hRc, hRs⟩ := hRm
  refine g_wf (fun hwf => ?_)
  have hB28 : B28 = 268435456 := rfl
  obtain ⟨f, u, bl, hO, hR, hf, hu18, hbl⟩ := id hW
  have hne := oI_ne hO hR
  refine g_aload_n C dX5_isZero_0 rfl ?_
  refine g_get (ci := 7) C rfl inTX5 1 (by decide) fl_RX5_17 rfl hO rfl dX5_isZero_1 ?_
  refine g_if_ne (tgt := 11) C dX5_isZero_4 (by decide) (by omega) (fun h4 => ?_) (fun h4 => ?_)
  · refine g_iconst C dX5_isZero_11 ?_
    exact g_zreturn C hQ dX5_isZero_12 (nar01 (by omega)) (Nat.le_refl _) (Nat.le_refl _) ⟨⟨_, rfl, by omega⟩, rfl⟩
  · refine g_iconst C dX5_isZero_7 ?_
    refine g_goto (tgt := 12) C dX5_isZero_8 (by decide) ?_
    exact g_zreturn C hQ dX5_isZero_12 (nar01 (by omega)) (Nat.le_refl _) (Nat.le_refl _) ⟨⟨_, rfl, by omega⟩, rfl⟩
set_option maxHeartbeats 4000000 in
set_option maxRecDepth 100000 in
theorem s_X5_isNumber (l : Launch) {E : GE} {w : Wd} {a r : Nat} (hW : WS w a r) {v : Int} (hv : -268435456 < v ∧ v < 268435456) : Sp E l yX5_isNumber cX5_isNumber 2 (some .boolean) 0 (0) (0) [.ref a, iI v] w (fun r' w' => (∃ d : Int, r' = some (iI d) ∧ (d = 0 ∨ d = 1)) ∧ w' = w) := by
  refine sp_intro [some (.ref a), some (iI v)] rfl (Nat.le_of_ble_eq_true rfl) pn_X5 ?_
  intro X C hRm hl hnm hQ
  obtain ⟨hRf, hRl, hRc, hRs⟩ := hRm
  refine g_wf (fun hwf => ?_)
  have hB28 : B28 = 268435456 := rfl
  obtain ⟨f, u, bl, hO, hR, hf, hu18, hbl⟩ := id hW
  have hne := oI_ne hO hR
  have h00 := hf 0 (by omega)
  refine g_aload_n C dX5_isNumber_0 rfl ?_
  refine g_get (ci := 7) C rfl inTX5 1 (by decide) fl_RX5_17 rfl hO rfl dX5_isNumber_1 ?_
  refine g_iconst C dX5_isNumber_4 ?_
  refine g_icmp_gt (tgt := 39) C dX5_isNumber_5 (by decide) (by omega) (by omega) (fun h5 => ?_) (fun h5 => ?_)
  · refine g_iconst C dX5_isNumber_39 ?_
    exact g_zreturn C hQ dX5_isNumber_40 (nar01 (by omega)) (Nat.le_refl _) (Nat.le_refl _) ⟨⟨_, rfl, by omega⟩, rfl⟩
  · refine g_aload_n C dX5_isNumber_8 rfl ?_
    refine g_get (ci := 7) C rfl inTX5 2 (by decide) fl_RX5_13 rfl hO rfl dX5_isNumber_9 ?_
    refine g_if_eq (tgt := 25) C dX5_isNumber_12 (by decide) (by omega) (fun h12 => ?_) (fun h12 => ?_)
    · refine g_aload_n C dX5_isNumber_25 rfl ?_
      refine g_get (ci := 7) C rfl inTX5 0 (by decide) fl_RX5_9 rfl hO rfl dX5_isNumber_26 ?_
      refine g_iconst C dX5_isNumber_29 ?_
      refine g_ialoadN (0) C hR (by omega) (by omega) dX5_isNumber_30 ?_
      refine g_iload_n C dX5_isNumber_31 rfl ?_
      refine g_icmp_ne (tgt := 39) C dX5_isNumber_32 (by decide) (by omega) (by omega) (fun h32 => ?_) (fun h32 => ?_)
      · refine g_iconst C dX5_isNumber_39 ?_
        exact g_zreturn C hQ dX5_isNumber_40 (nar01 (by omega)) (Nat.le_refl _) (Nat.le_refl _) ⟨⟨_, rfl, by omega⟩, rfl⟩
      · refine g_iconst C dX5_isNumber_35 ?_
        refine g_goto (tgt := 40) C dX5_isNumber_36 (by decide) ?_
        exact g_zreturn C hQ dX5_isNumber_40 (nar01 (by omega)) (Nat.le_refl _) (Nat.le_refl _) ⟨⟨_, rfl, by omega⟩, rfl⟩
    · refine g_aload_n C dX5_isNumber_15 rfl ?_
      refine g_get (ci := 7) C rfl inTX5 0 (by decide) fl_RX5_9 rfl hO rfl dX5_isNumber_16 ?_
      refine g_iconst C dX5_isNumber_19 ?_
      refine g_ialoadN (0) C hR (by omega) (by omega) dX5_isNumber_20 ?_
      refine g_ineg C dX5_isNumber_21 ?_
      refine g_goto (tgt := 31) C dX5_isNumber_22 (by decide) ?_
      refine g_iload_n C dX5_isNumber_31 rfl ?_
      refine g_icmp_ne (tgt := 39) C dX5_isNumber_32 (by decide) (by omega) (by omega) (fun h32 => ?_) (fun h32 => ?_)
      · refine g_iconst C dX5_isNumber_39 ?_
        exact g_zreturn C hQ dX5_isNumber_40 (nar01 (by omega)) (Nat.le_refl _) (Nat.le_refl _) ⟨⟨_, rfl, by omega⟩, rfl⟩
      · refine g_iconst C dX5_isNumber_35 ?_
        refine g_goto (tgt := 40) C dX5_isNumber_36 (by decide) ?_
        exact g_zreturn C hQ dX5_isNumber_40 (nar01 (by omega)) (Nat.le_refl _) (Nat.le_refl _) ⟨⟨_, rfl, by omega⟩, rfl⟩
set_option maxHeartbeats 4000000 in
set_option maxRecDepth 100000 in
theorem s_X5_isOne (l : Launch) {E : GE} {w : Wd} {a r : Nat} (hW : WS w a r) : Sp E l yX5_isOne cX5_isOne 1 (some .boolean) 1 (0) (0) [.ref a] w (fun r' w' => (∃ d : Int, r' = some (iI d) ∧ (d = 0 ∨ d = 1)) ∧ w' = w) := by
  refine sp_intro [some (.ref a)] rfl (Nat.le_of_ble_eq_true rfl) pn_X5 ?_
  intro X C hRm hl hnm hQ
  obtain ⟨hRf, hRl, hRc, hRs⟩ := hRm
  refine g_wf (fun hwf => ?_)
  have hB28 : B28 = 268435456 := rfl
  obtain ⟨f, u, bl, hO, hR, hf, hu18, hbl⟩ := id hW
  have hne := oI_ne hO hR
  refine g_aload_n C dX5_isOne_0 rfl ?_
  refine g_iconst C dX5_isOne_1 ?_
  refine g_callV C (s_X5_isNumber _ hW (v := 1) (by omega)) (ci := 7) rfl hO rfl ml_RX5_21 im_yX5_isNumber se_RX5_yX5_isNumber in_RX5 co_yX5_isNumber hd_X5_isNumber rfl ⟨by omega, by omega⟩ rfl (Nat.le_of_ble_eq_true rfl) ⟨by omega, by omega⟩ dX5_isOne_2 (fun v2 w2 hp2 => ?_)
  obtain ⟨⟨d2, rfl, hd2⟩, hw2⟩ := hp2
  subst w2
  exact g_zreturn C hQ dX5_isOne_5 (nar01 (by omega)) (Nat.le_refl _) (Nat.le_refl _) ⟨⟨_, rfl, hd2⟩, rfl⟩
set_option maxHeartbeats 4000000 in
set_option maxRecDepth 100000 in
theorem s_X5_negate (l : Launch) {E : GE} {w : Wd} {a r : Nat} (hW : WS w a r) : Sp E l yX5_negate cX5_negate 1 none 0 (0) (0) [.ref a] w (fun r' w' => r' = none ∧ WS w' a r ∧ FrW w w' a r) := by
  refine sp_intro [some (.ref a)] rfl (Nat.le_of_ble_eq_true rfl) pn_X5 ?_
  intro X C hRm hl hnm hQ
  obtain ⟨hRf, hRl, hRc, hRs⟩ := hRm
  refine g_wf (fun hwf => ?_)
  have hB28 : B28 = 268435456 := rfl
  obtain ⟨f, u, bl, hO, hR, hf, hu18, hbl⟩ := id hW
  have hne := oI_ne hO hR
  have J20 : ∀ b : Int, b = 0 ∨ b = 1 → G E X 1 20 [some (.ref a)] [iI b, .ref a] w 0 0 := by
    intro b hb
    refine g_put (ci := 7) C rfl inTX5 tyX5 tyX5_ok nmX5 2 (by decide) fl_RX5_13 rfl rfl hO (Nat.le_of_ble_eq_true rfl) (by rcases hb with q | q <;> (rw [q]; rfl)) (by rcases hb with q | q <;> (rw [q]; rfl)) dX5_negate_20 ?_
    exact g_return C hQ dX5_negate_23 (Nat.le_refl _) (Nat.le_refl _) ⟨rfl, ⟨f, u, b, wset_s, by rw [wset_n (Ne.symm hne)]; exact hR, hf, hu18, hb⟩, (FrW.rf _ _ _).set (Or.inl rfl) _⟩
  refine g_aload_n C dX5_negate_0 rfl ?_
  refine g_aload_n C dX5_negate_1 rfl ?_
  refine g_get (ci := 7) C rfl inTX5 1 (by decide) fl_RX5_17 rfl hO rfl dX5_negate_2 ?_
  refine g_if_le (tgt := 19) C dX5_negate_5 (by decide) (by omega) (fun h5 => ?_) (fun h5 => ?_)
  · refine g_iconst C dX5_negate_19 ?_
    exact J20 _ (by omega)
  · refine g_aload_n C dX5_negate_8 rfl ?_
    refine g_get (ci := 7) C rfl inTX5 2 (by decide) fl_RX5_13 rfl hO rfl dX5_negate_9 ?_
    refine g_if_ne (tgt := 19) C dX5_negate_12 (by decide) (by omega) (fun h12 => ?_) (fun h12 => ?_)
    · refine g_iconst C dX5_negate_19 ?_
      exact J20 _ (by omega)
    · refine g_iconst C dX5_negate_15 ?_
      refine g_goto (tgt := 20) C dX5_negate_16 (by decide) ?_
      exact J20 _ (by omega)
set_option maxHeartbeats 4000000 in
set_option maxRecDepth 100000 in
theorem s_X5_makeSize (l : Launch) {E : GE} {w : Wd} {a r : Nat} (hW : WS w a r) : Sp E l yX5_makeSize cX5_makeSize 1 none 0 (0) (0) [.ref a] w (fun r' w' => r' = none ∧ WS w' a r ∧ FrW w w' a r) := by
  refine sp_intro [some (.ref a)] rfl (Nat.le_of_ble_eq_true rfl) pn_X5 ?_
  intro X C hRm hl hnm hQ
  obtain ⟨hRf, hRl, hRc, hRs⟩ := hRm
  refine g_wf (fun hwf => ?_)
  have hB28 : B28 = 268435456 := rfl
  obtain ⟨f, u, bl, hO, hR, hf, hu18, hbl⟩ := id hW
  have hne := oI_ne hO hR
  refine g_aload_n C dX5_makeSize_0 rfl ?_
  refine g_iconst C dX5_makeSize_1 ?_
  refine g_put (ci := 7) C rfl inTX5 tyX5 tyX5_ok nmX5 2 (by decide) fl_RX5_13 rfl rfl hO (Nat.le_of_ble_eq_true rfl) rfl rfl dX5_makeSize_2 ?_
  exact g_return C hQ dX5_makeSize_5 (Nat.le_refl _) (Nat.le_refl _) ⟨rfl, ⟨f, u, 0, wset_s, by rw [wset_n (Ne.symm hne)]; exact hR, hf, hu18, Or.inl rfl⟩, (FrW.rf _ _ _).set (Or.inl rfl) _⟩
set_option maxHeartbeats 4000000 in
set_option maxRecDepth 100000 in
theorem s_X5_compareSize (l : Launch) {E : GE} {w : Wd} {a r b s : Nat} (h1 : WS w a r) (h2 : WS w b s) : Sp E l yX5_compareSize cX5_compareSize 3 (some .int) 1 (0) (0) [.ref a, .ref b] w (fun r' w' => (∃ d : Int, r' = some (iI d) ∧ -1 ≤ d ∧ d ≤ 1) ∧ w' = w) := by
  refine sp_intro [some (.ref a), some (.ref b), none] rfl (Nat.le_of_ble_eq_true rfl) pn_X5 ?_
  intro X C hRm hl hnm hQ
  obtain ⟨hRf, hRl, hRc, hRs⟩ := hRm
  refine g_wf (fun hwf => ?_)
  have hB28 : B28 = 268435456 := rfl
  obtain ⟨f, u, bl, hO, hR, hf, hu18, hbl⟩ := id h1
  obtain ⟨g, v, bm, hO2, hR2, hg, hv18, hbm⟩ := id h2
  have hne := oI_ne hO hR
  have hne2 := oI_ne hO2 hR2
  have hn12 := oI_ne hO hR2
  have hn21 := oI_ne hO2 hR
  obtain ⟨q, hq1, hq2, hq3, hq4, hq5, hq6⟩ := mx18 hu18 hv18
  refine g_bipush C dX5_compareSize_0 (by decide) ?_
  refine g_aload_n C dX5_compareSize_2 rfl ?_
  refine g_get (ci := 7) C rfl inTX5 1 (by decide) fl_RX5_17 rfl hO rfl dX5_compareSize_3 ?_
  refine g_aload_n C dX5_compareSize_6 rfl ?_
  refine g_get (ci := 7) C rfl inTX5 1 (by decide) fl_RX5_17 rfl hO2 rfl dX5_compareSize_7 ?_
  refine g_max C ml_RX5_60 (by omega) (by omega) (by omega) (by omega) (Nat.le_of_ble_eq_true rfl) (by omega) dX5_compareSize_10 ?_
  rw [hq5]
  refine g_min C ml_RX5_66 (by omega) (by omega) (by omega) (by omega) (Nat.le_of_ble_eq_true rfl) (by omega) dX5_compareSize_13 ?_
  rw [hq6]
  refine g_iconst C dX5_compareSize_16 ?_
  refine g_isub C dX5_compareSize_17 ?_
  refine g_istore_n C dX5_compareSize_18 (by decide) rfl ?_
  refine g_loop (σ := Int) (fun i => -1 ≤ i ∧ i ≤ 17) (fun i => G E X 3 19 [some (.ref a), some (.ref b), some (iI i)] [] w 0 0) (fun i => (i + 1).toNat) ?_ ((q : Int) - 1) ⟨by omega, by omega⟩
  rintro i ⟨hi0, hi1⟩ ih
  refine g_iload_n C dX5_compareSize_19 rfl ?_
  refine g_if_lt (tgt := 65) C dX5_compareSize_20 (by decide) (by omega) (fun h20 => ?_) (fun h20 => ?_)
  · refine g_iconst C dX5_compareSize_65 ?_
    exact g_ireturn C hQ dX5_compareSize_66 (Nat.le_refl _) (Nat.le_refl _) ⟨⟨0, rfl, by omega⟩, rfl⟩
  · obtain ⟨k, rfl⟩ := Int.eq_ofNat_of_zero_le (show 0 ≤ i by omega)
    have hfk := hf k (by omega)
    have hgk := hg k (by omega)
    refine g_aload_n C dX5_compareSize_23 rfl ?_
    refine g_get (ci := 7) C rfl inTX5 0 (by decide) fl_RX5_9 rfl hO rfl dX5_compareSize_24 ?_
    refine g_iload_n C dX5_compareSize_27 rfl ?_
    refine g_ialoadN (k) C hR (by omega) (by omega) dX5_compareSize_28 ?_
    refine g_aload_n C dX5_compareSize_29 rfl ?_
    refine g_get (ci := 7) C rfl inTX5 0 (by decide) fl_RX5_9 rfl hO2 rfl dX5_compareSize_30 ?_
    refine g_iload_n C dX5_compareSize_33 rfl ?_
    refine g_ialoadN (k) C hR2 (by omega) (by omega) dX5_compareSize_34 ?_
    refine g_icmp_eq (tgt := 59) C dX5_compareSize_35 (by decide) (by omega) (by omega) (fun h35 => ?_) (fun h35 => ?_)
    · refine g_iinc C dX5_compareSize_59 rfl (by decide) rfl ?_
      refine g_goto (tgt := 19) C dX5_compareSize_62 (by decide) ?_
      exact ih ((k : Int) + -1) ⟨by omega, by omega⟩ (by omega)
    · refine g_aload_n C dX5_compareSize_38 rfl ?_
      refine g_get (ci := 7) C rfl inTX5 0 (by decide) fl_RX5_9 rfl hO rfl dX5_compareSize_39 ?_
      refine g_iload_n C dX5_compareSize_42 rfl ?_
      refine g_ialoadN (k) C hR (by omega) (by omega) dX5_compareSize_43 ?_
      refine g_aload_n C dX5_compareSize_44 rfl ?_
      refine g_get (ci := 7) C rfl inTX5 0 (by decide) fl_RX5_9 rfl hO2 rfl dX5_compareSize_45 ?_
      refine g_iload_n C dX5_compareSize_48 rfl ?_
      refine g_ialoadN (k) C hR2 (by omega) (by omega) dX5_compareSize_49 ?_
      refine g_icmp_le (tgt := 57) C dX5_compareSize_50 (by decide) (by omega) (by omega) (fun h50 => ?_) (fun h50 => ?_)
      · refine g_iconst C dX5_compareSize_57 ?_
        exact g_ireturn C hQ dX5_compareSize_58 (Nat.le_refl _) (Nat.le_refl _) ⟨⟨_, rfl, by omega⟩, rfl⟩
      · refine g_iconst C dX5_compareSize_53 ?_
        refine g_goto (tgt := 58) C dX5_compareSize_54 (by decide) ?_
        exact g_ireturn C hQ dX5_compareSize_58 (Nat.le_refl _) (Nat.le_refl _) ⟨⟨_, rfl, by omega⟩, rfl⟩
set_option maxHeartbeats 4000000 in
set_option maxRecDepth 100000 in
theorem s_X5_compareValue (l : Launch) {E : GE} {w : Wd} {a r b s : Nat} (h1 : WS w a r) (h2 : WS w b s) : Sp E l yX5_compareValue cX5_compareValue 2 (some .int) 2 (0) (0) [.ref a, .ref b] w (fun r' w' => (∃ d : Int, r' = some (iI d) ∧ -1 ≤ d ∧ d ≤ 1) ∧ w' = w) := by
  refine sp_intro [some (.ref a), some (.ref b)] rfl (Nat.le_of_ble_eq_true rfl) pn_X5 ?_
  intro X C hRm hl hnm hQ
  obtain ⟨hRf, hRl, hRc, hRs⟩ := hRm
  refine g_wf (fun hwf => ?_)
  have hB28 : B28 = 268435456 := rfl
  obtain ⟨f, u, bl, hO, hR, hf, hu18, hbl⟩ := id h1
  obtain ⟨g, v, bm, hO2, hR2, hg, hv18, hbm⟩ := id h2
  have hne := oI_ne hO hR
  have hne2 := oI_ne hO2 hR2
  have hn12 := oI_ne hO hR2
  have hn21 := oI_ne hO2 hR
  refine g_aload_n C dX5_compareValue_0 rfl ?_
  refine g_get (ci := 7) C rfl inTX5 2 (by decide) fl_RX5_13 rfl hO rfl dX5_compareValue_1 ?_
  refine g_aload_n C dX5_compareValue_4 rfl ?_
  refine g_get (ci := 7) C rfl inTX5 2 (by decide) fl_RX5_13 rfl hO2 rfl dX5_compareValue_5 ?_
  refine g_icmp_eq (tgt := 24) C dX5_compareValue_8 (by decide) (by omega) (by omega) (fun h8 => ?_) (fun h8 => ?_)
  · refine g_aload_n C dX5_compareValue_24 rfl ?_
    refine g_get (ci := 7) C rfl inTX5 2 (by decide) fl_RX5_13 rfl hO rfl dX5_compareValue_25 ?_
    refine g_if_eq (tgt := 40) C dX5_compareValue_28 (by decide) (by omega) (fun h28 => ?_) (fun h28 => ?_)
    · refine g_aload_n C dX5_compareValue_40 rfl ?_
      refine g_aload_n C dX5_compareValue_41 rfl ?_
      refine g_callV C (s_X5_compareSize _ h1 h2) (ci := 7) rfl hO rfl ml_RX5_50 im_yX5_compareSize se_RX5_yX5_compareSize in_RX5 co_yX5_compareSize hd_X5_compareSize rfl ⟨by omega, by omega⟩ rfl (Nat.le_of_ble_eq_true rfl) ⟨by omega, by omega⟩ dX5_compareValue_42 (fun v42 w42 hp42 => ?_)
      obtain ⟨⟨d, rfl, hd⟩, hw42⟩ := hp42
      subst w42
      exact g_ireturn C hQ dX5_compareValue_45 (Nat.le_refl _) (Nat.le_refl _) ⟨⟨_, rfl, by omega⟩, rfl⟩
    · refine g_aload_n C dX5_compareValue_31 rfl ?_
      refine g_aload_n C dX5_compareValue_32 rfl ?_
      refine g_callV C (s_X5_compareSize _ h1 h2) (ci := 7) rfl hO rfl ml_RX5_50 im_yX5_compareSize se_RX5_yX5_compareSize in_RX5 co_yX5_compareSize hd_X5_compareSize rfl ⟨by omega, by omega⟩ rfl (Nat.le_of_ble_eq_true rfl) ⟨by omega, by omega⟩ dX5_compareValue_33 (fun v33 w33 hp33 => ?_)
      obtain ⟨⟨d, rfl, hd⟩, hw33⟩ := hp33
      subst w33
      refine g_ineg C dX5_compareValue_36 ?_
      refine g_goto (tgt := 45) C dX5_compareValue_37 (by decide) ?_
      exact g_ireturn C hQ dX5_compareValue_45 (Nat.le_refl _) (Nat.le_refl _) ⟨⟨_, rfl, by omega⟩, rfl⟩
  · refine g_aload_n C dX5_compareValue_11 rfl ?_
    refine g_get (ci := 7) C rfl inTX5 2 (by decide) fl_RX5_13 rfl hO rfl dX5_compareValue_12 ?_
    refine g_if_eq (tgt := 22) C dX5_compareValue_15 (by decide) (by omega) (fun h15 => ?_) (fun h15 => ?_)
    · refine g_iconst C dX5_compareValue_22 ?_
      exact g_ireturn C hQ dX5_compareValue_23 (Nat.le_refl _) (Nat.le_refl _) ⟨⟨_, rfl, by omega⟩, rfl⟩
    · refine g_iconst C dX5_compareValue_18 ?_
      refine g_goto (tgt := 23) C dX5_compareValue_19 (by decide) ?_
      exact g_ireturn C hQ dX5_compareValue_23 (Nat.le_refl _) (Nat.le_refl _) ⟨⟨_, rfl, by omega⟩, rfl⟩
set_option maxHeartbeats 4000000 in
set_option maxRecDepth 100000 in
theorem s_X5_addSize (l : Launch) {E : GE} {w : Wd} {a r b s : Nat} (h1 : WS w a r) (h2 : WS w b s) (hrs : r ≠ s) : Sp E l yX5_addSize cX5_addSize 5 none 1 (0) (0) [.ref a, .ref b] w (fun r' w' => r' = none ∧ WS w' a r ∧ FrW w w' a r) := by
  refine sp_intro [some (.ref a), some (.ref b), none, none, none] rfl (Nat.le_of_ble_eq_true rfl) pn_X5 ?_
  intro X C hRm hl hnm hQ
  obtain ⟨hRf, hRl, hRc, hRs⟩ := hRm
  refine g_wf (fun hwf => ?_)
  have hB28 : B28 = 268435456 := rfl
  obtain ⟨f, u, bl, hO, hR, hf, hu18, hbl⟩ := id h1
  obtain ⟨g, v, bm, hO2, hR2, hg, hv18, hbm⟩ := id h2
  have hne := oI_ne hO hR
  have hne2 := oI_ne hO2 hR2
  have hn12 := oI_ne hO hR2
  have hn21 := oI_ne hO2 hR
  obtain ⟨q, hq1, hq2, hq3, hq4, hq5, hq6⟩ := mx18 hu18 hv18
  obtain ⟨e, he1, he2, he3⟩ := mn18 (q + 1)
  refine g_bipush C dX5_addSize_0 (by decide) ?_
  refine g_aload_n C dX5_addSize_2 rfl ?_
  refine g_get (ci := 7) C rfl inTX5 1 (by decide) fl_RX5_17 rfl hO rfl dX5_addSize_3 ?_
  refine g_aload_n C dX5_addSize_6 rfl ?_
  refine g_get (ci := 7) C rfl inTX5 1 (by decide) fl_RX5_17 rfl hO2 rfl dX5_addSize_7 ?_
  refine g_max C ml_RX5_60 (by omega) (by omega) (by omega) (by omega) (Nat.le_of_ble_eq_true rfl) (by omega) dX5_addSize_10 ?_
  rw [hq5]
  refine g_iconst C dX5_addSize_13 ?_
  refine g_iadd C dX5_addSize_14 ?_
  rw [show (q : Int) + 1 = ((q + 1 : Nat) : Int) by omega]
  refine g_min C ml_RX5_66 (by omega) (by omega) (by omega) (by omega) (Nat.le_of_ble_eq_true rfl) (by omega) dX5_addSize_15 ?_
  rw [he3]
  refine g_istore_n C dX5_addSize_18 (by decide) rfl ?_
  refine g_iconst C dX5_addSize_19 ?_
  refine g_istore_n C dX5_addSize_20 (by decide) rfl ?_
  refine g_iconst C dX5_addSize_21 ?_
  refine g_istore C dX5_addSize_22 (by decide) rfl ?_
  suffices hh : G E X 5 24 [some (.ref a), some (.ref b), some (iI (e : Int)), some (iI 0), some (iI ((0 : Nat) : Int))] [] (wset w r (true, eI 18 f)) 0 0 by rw [wset_id hR] at hh; exact hh
  refine g_loop (σ := Nat × Int × (Nat → Int)) (fun t => t.1 ≤ e ∧ (t.2.1 = 0 ∨ t.2.1 = 1) ∧ DC t.2.2) (fun t => G E X 5 24 [some (.ref a), some (.ref b), some (iI (e : Int)), some (iI t.2.1), some (iI (t.1 : Int))] [] (wset w r (true, eI 18 t.2.2)) 0 0) (fun t => e - t.1) ?_ (0, 0, f) ⟨Nat.zero_le _, Or.inl rfl, hf⟩
  rintro ⟨j, c, h⟩ hq ih
  obtain ⟨hj, hc, hdh⟩ := hq
  dsimp only at hj hc hdh ⊢
  have hOk : (wset w r (true, eI 18 h)).2 a = some (true, oW r u bl) := by rw [wset_n hne]; exact hO
  have hO2k : (wset w r (true, eI 18 h)).2 b = some (true, oW s v bm) := by rw [wset_n hn21]; exact hO2
  have hR2k : (wset w r (true, eI 18 h)).2 s = some (true, eI 18 g) := by rw [wset_n (Ne.symm hrs)]; exact hR2
  refine g_iload C dX5_addSize_24 rfl ?_
  refine g_iload_n C dX5_addSize_26 rfl ?_
  refine g_icmp_ge (tgt := 70) C dX5_addSize_27 (by decide) (by omega) (by omega) (fun h27 => ?_) (fun h27 => ?_)
  · refine g_aload_n C dX5_addSize_70 rfl ?_
    refine g_iload_n C dX5_addSize_71 rfl ?_
    refine g_callV C (s_X5_trim _ (p := e) hOk wset_s hdh he1 hbl) (ci := 7) rfl hOk rfl ml_RX5_30 im_yX5_trim se_RX5_yX5_trim in_RX5 co_yX5_trim hd_X5_trim rfl ⟨by omega, by omega⟩ rfl (Nat.le_of_ble_eq_true rfl) ⟨by omega, by omega⟩ dX5_addSize_72 (fun v72 w72 hp72 => ?_)
    obtain ⟨rfl, hw9, fr9⟩ := hp72
    exact g_return C hQ dX5_addSize_75 (Nat.le_refl _) (Nat.le_refl _) ⟨rfl, hw9, ⟨fr9.1, fun x h3 h4 => by rw [fr9.2 x h3, wset_n h4]⟩⟩
  · have hfk := hdh j (by omega)
    have hgk := hg j (by omega)
    have hm28 := mod28 (c + (h j + g j))
    have hd28e : (c + (h j + g j)) / B28 = (c + (h j + g j)) / 268435456 := rfl
    refine g_iload_n C dX5_addSize_30 rfl ?_
    refine g_aload_n C dX5_addSize_31 rfl ?_
    refine g_get (ci := 7) C rfl inTX5 0 (by decide) fl_RX5_9 rfl hOk rfl dX5_addSize_32 ?_
    refine g_iload C dX5_addSize_35 rfl ?_
    refine g_ialoadN (j) C wset_s (by omega) (by omega) dX5_addSize_37 ?_
    refine g_aload_n C dX5_addSize_38 rfl ?_
    refine g_get (ci := 7) C rfl inTX5 0 (by decide) fl_RX5_9 rfl hO2k rfl dX5_addSize_39 ?_
    refine g_iload C dX5_addSize_42 rfl ?_
    refine g_ialoadN (j) C hR2k (by omega) (by omega) dX5_addSize_44 ?_
    refine g_iadd C dX5_addSize_45 ?_
    refine g_iadd C dX5_addSize_46 ?_
    refine g_istore_n C dX5_addSize_47 (by decide) rfl ?_
    refine g_aload_n C dX5_addSize_48 rfl ?_
    refine g_get (ci := 7) C rfl inTX5 0 (by decide) fl_RX5_9 rfl hOk rfl dX5_addSize_49 ?_
    refine g_iload C dX5_addSize_52 rfl ?_
    refine g_iload_n C dX5_addSize_54 rfl ?_
    refine g_ldc (z := 268435455) C ko_RX5_69 (by decide) dX5_addSize_55 ?_
    refine g_iand (z := (c + (h j + g j)) % B28) C dX5_addSize_57 (i_mask 28 (by omega) mask28) ?_
    refine g_iastoreN (j) C wset_s (by omega) (by omega) dX5_addSize_58 ?_
    rw [wset_set]
    refine g_iload_n C dX5_addSize_59 rfl ?_
    refine g_bipush C dX5_addSize_60 (by decide) ?_
    refine g_iushr (z := (c + (h j + g j)) / B28) C dX5_addSize_62 (i_ushr 28 (by omega) (by omega) (by decide)) ?_
    refine g_istore_n C dX5_addSize_63 (by decide) rfl ?_
    refine g_iinc C dX5_addSize_64 rfl (by decide) rfl ?_
    refine g_goto (tgt := 24) C dX5_addSize_67 (by decide) ?_
    exact ih (j + 1, (c + (h j + g j)) / B28, iup h j ((c + (h j + g j)) % B28)) ⟨by dsimp only; omega, by dsimp only; omega, hdh.up _ hm28⟩ (by dsimp only; omega)
set_option maxHeartbeats 4000000 in
set_option maxRecDepth 100000 in
theorem s_X5_takeSize (l : Launch) {E : GE} {w : Wd} {a r b s : Nat} (h1 : WS w a r) (h2 : WS w b s) (hrs : r ≠ s) : Sp E l yX5_takeSize cX5_takeSize 6 none 1 (0) (0) [.ref a, .ref b] w (fun r' w' => r' = none ∧ WS w' a r ∧ FrW w w' a r) := by
  refine sp_intro [some (.ref a), some (.ref b), none, none, none, none] rfl (Nat.le_of_ble_eq_true rfl) pn_X5 ?_
  intro X C hRm hl hnm hQ
  obtain ⟨hRf, hRl, hRc, hRs⟩ := hRm
  refine g_wf (fun hwf => ?_)
  have hB28 : B28 = 268435456 := rfl
  obtain ⟨f, u, bl, hO, hR, hf, hu18, hbl⟩ := id h1
  obtain ⟨g, v, bm, hO2, hR2, hg, hv18, hbm⟩ := id h2
  have hne := oI_ne hO hR
  have hne2 := oI_ne hO2 hR2
  have hn12 := oI_ne hO hR2
  have hn21 := oI_ne hO2 hR
  obtain ⟨e, he1, he2, he3⟩ := mn18 u
  refine g_bipush C dX5_takeSize_0 (by decide) ?_
  refine g_aload_n C dX5_takeSize_2 rfl ?_
  refine g_get (ci := 7) C rfl inTX5 1 (by decide) fl_RX5_17 rfl hO rfl dX5_takeSize_3 ?_
  refine g_min C ml_RX5_66 (by omega) (by omega) (by omega) (by omega) (Nat.le_of_ble_eq_true rfl) (by omega) dX5_takeSize_6 ?_
  rw [he3]
  refine g_istore_n C dX5_takeSize_9 (by decide) rfl ?_
  refine g_iconst C dX5_takeSize_10 ?_
  refine g_istore_n C dX5_takeSize_11 (by decide) rfl ?_
  refine g_iconst C dX5_takeSize_12 ?_
  refine g_istore C dX5_takeSize_13 (by decide) rfl ?_
  suffices hh : G E X 6 15 [some (.ref a), some (.ref b), some (iI (e : Int)), some (iI 0), some (iI ((0 : Nat) : Int)), none] [] (wset w r (true, eI 18 f)) 0 0 by rw [wset_id hR] at hh; exact hh
  refine g_loop (σ := Nat × Int × (Nat → Int)) (fun t => t.1 ≤ e ∧ (t.2.1 = 0 ∨ t.2.1 = 1) ∧ DC t.2.2) (fun t => G E X 6 15 [some (.ref a), some (.ref b), some (iI (e : Int)), some (iI t.2.1), some (iI (t.1 : Int)), none] [] (wset w r (true, eI 18 t.2.2)) 0 0) (fun t => e - t.1) ?_ (0, 0, f) ⟨Nat.zero_le _, Or.inl rfl, hf⟩
  rintro ⟨j, c, h⟩ hq ih
  obtain ⟨hj, hc, hdh⟩ := hq
  dsimp only at hj hc hdh ⊢
  have hOk : (wset w r (true, eI 18 h)).2 a = some (true, oW r u bl) := by rw [wset_n hne]; exact hO
  have hO2k : (wset w r (true, eI 18 h)).2 b = some (true, oW s v bm) := by rw [wset_n hn21]; exact hO2
  have hR2k : (wset w r (true, eI 18 h)).2 s = some (true, eI 18 g) := by rw [wset_n (Ne.symm hrs)]; exact hR2
  refine g_iload C dX5_takeSize_15 rfl ?_
  refine g_iload_n C dX5_takeSize_17 rfl ?_
  refine g_icmp_ge (tgt := 69) C dX5_takeSize_18 (by decide) (by omega) (by omega) (fun h18 => ?_) (fun h18 => ?_)
  · refine g_aload_n C dX5_takeSize_69 rfl ?_
    refine g_iload_n C dX5_takeSize_70 rfl ?_
    refine g_callV C (s_X5_trim _ (p := e) hOk wset_s hdh he1 hbl) (ci := 7) rfl hOk rfl ml_RX5_30 im_yX5_trim se_RX5_yX5_trim in_RX5 co_yX5_trim hd_X5_trim rfl ⟨by omega, by omega⟩ rfl (Nat.le_of_ble_eq_true rfl) ⟨by omega, by omega⟩ dX5_takeSize_71 (fun v71 w71 hp71 => ?_)
    obtain ⟨rfl, hw9, fr9⟩ := hp71
    exact g_return C hQ dX5_takeSize_74 (Nat.le_refl _) (Nat.le_refl _) ⟨rfl, hw9, ⟨fr9.1, fun x h3 h4 => by rw [fr9.2 x h3, wset_n h4]⟩⟩
  · have hfk := hdh j (by omega)
    have hgk := hg j (by omega)
    have hm28 := mod28 (h j - g j - c)
    have J62 : ∀ c2 : Int, (c2 = 0 ∨ c2 = 1) → G E X 6 62 [some (.ref a), some (.ref b), some (iI (e : Int)), some (iI c), some (iI (j : Int)), some (iI (h j - g j - c))] [iI c2] (wset w r (true, eI 18 (iup h j ((h j - g j - c) % B28)))) 0 0 := by
      intro c2 hc2
      refine g_istore_n C dX5_takeSize_62 (by decide) rfl ?_
      refine g_iinc C dX5_takeSize_63 rfl (by decide) rfl ?_
      refine g_goto (tgt := 15) C dX5_takeSize_66 (by decide) ?_
      refine g_drop 5 ?_
      exact ih (j + 1, c2, iup h j ((h j - g j - c) % B28)) ⟨by dsimp only; omega, by dsimp only; omega, hdh.up _ hm28⟩ (by dsimp only; omega)
    refine g_aload_n C dX5_takeSize_21 rfl ?_
    refine g_get (ci := 7) C rfl inTX5 0 (by decide) fl_RX5_9 rfl hOk rfl dX5_takeSize_22 ?_
    refine g_iload C dX5_takeSize_25 rfl ?_
    refine g_ialoadN (j) C wset_s (by omega) (by omega) dX5_takeSize_27 ?_
    refine g_aload_n C dX5_takeSize_28 rfl ?_
    refine g_get (ci := 7) C rfl inTX5 0 (by decide) fl_RX5_9 rfl hO2k rfl dX5_takeSize_29 ?_
    refine g_iload C dX5_takeSize_32 rfl ?_
    refine g_ialoadN (j) C hR2k (by omega) (by omega) dX5_takeSize_34 ?_
    refine g_isub C dX5_takeSize_35 ?_
    refine g_iload_n C dX5_takeSize_36 rfl ?_
    refine g_isub C dX5_takeSize_37 ?_
    refine g_istore C dX5_takeSize_38 (by decide) rfl ?_
    refine g_aload_n C dX5_takeSize_40 rfl ?_
    refine g_get (ci := 7) C rfl inTX5 0 (by decide) fl_RX5_9 rfl hOk rfl dX5_takeSize_41 ?_
    refine g_iload C dX5_takeSize_44 rfl ?_
    refine g_iload C dX5_takeSize_46 rfl ?_
    refine g_ldc (z := 268435455) C ko_RX5_69 (by decide) dX5_takeSize_48 ?_
    refine g_iand (z := (h j - g j - c) % B28) C dX5_takeSize_50 (i_mask 28 (by omega) mask28) ?_
    refine g_iastoreN (j) C wset_s (by omega) (by omega) dX5_takeSize_51 ?_
    rw [wset_set]
    refine g_iload C dX5_takeSize_52 rfl ?_
    refine g_if_ge (tgt := 61) C dX5_takeSize_54 (by decide) (by omega) (fun h54 => ?_) (fun h54 => ?_)
    · refine g_iconst C dX5_takeSize_61 ?_
      exact J62 _ (by omega)
    · refine g_iconst C dX5_takeSize_57 ?_
      refine g_goto (tgt := 62) C dX5_takeSize_58 (by decide) ?_
      exact J62 _ (by omega)
set_option maxHeartbeats 4000000 in
set_option maxRecDepth 100000 in
theorem s_X5_takeFromSize (l : Launch) {E : GE} {w : Wd} {a r b s : Nat} (h1 : WS w a r) (h2 : WS w b s) (hrs : r ≠ s) : Sp E l yX5_takeFromSize cX5_takeFromSize 6 none 1 (0) (0) [.ref a, .ref b] w (fun r' w' => r' = none ∧ WS w' a r ∧ FrW w w' a r) := by
  refine sp_intro [some (.ref a), some (.ref b), none, none, none, none] rfl (Nat.le_of_ble_eq_true rfl) pn_X5 ?_
  intro X C hRm hl hnm hQ
  obtain ⟨hRf, hRl, hRc, hRs⟩ := hRm
  refine g_wf (fun hwf => ?_)
  have hB28 : B28 = 268435456 := rfl
  obtain ⟨f, u, bl, hO, hR, hf, hu18, hbl⟩ := id h1
  obtain ⟨g, v, bm, hO2, hR2, hg, hv18, hbm⟩ := id h2
  have hne := oI_ne hO hR
  have hne2 := oI_ne hO2 hR2
  have hn12 := oI_ne hO hR2
  have hn21 := oI_ne hO2 hR
  obtain ⟨e, he1, he2, he3⟩ := mn18 v
  refine g_bipush C dX5_takeFromSize_0 (by decide) ?_
  refine g_aload_n C dX5_takeFromSize_2 rfl ?_
  refine g_get (ci := 7) C rfl inTX5 1 (by decide) fl_RX5_17 rfl hO2 rfl dX5_takeFromSize_3 ?_
  refine g_min C ml_RX5_66 (by omega) (by omega) (by omega) (by omega) (Nat.le_of_ble_eq_true rfl) (by omega) dX5_takeFromSize_6 ?_
  rw [he3]
  refine g_istore_n C dX5_takeFromSize_9 (by decide) rfl ?_
  refine g_iconst C dX5_takeFromSize_10 ?_
  refine g_istore_n C dX5_takeFromSize_11 (by decide) rfl ?_
  refine g_iconst C dX5_takeFromSize_12 ?_
  refine g_istore C dX5_takeFromSize_13 (by decide) rfl ?_
  suffices hh : G E X 6 15 [some (.ref a), some (.ref b), some (iI (e : Int)), some (iI 0), some (iI ((0 : Nat) : Int)), none] [] (wset w r (true, eI 18 f)) 0 0 by rw [wset_id hR] at hh; exact hh
  refine g_loop (σ := Nat × Int × (Nat → Int)) (fun t => t.1 ≤ e ∧ (t.2.1 = 0 ∨ t.2.1 = 1) ∧ DC t.2.2) (fun t => G E X 6 15 [some (.ref a), some (.ref b), some (iI (e : Int)), some (iI t.2.1), some (iI (t.1 : Int)), none] [] (wset w r (true, eI 18 t.2.2)) 0 0) (fun t => e - t.1) ?_ (0, 0, f) ⟨Nat.zero_le _, Or.inl rfl, hf⟩
  rintro ⟨j, c, h⟩ hq ih
  obtain ⟨hj, hc, hdh⟩ := hq
  dsimp only at hj hc hdh ⊢
  have hOk : (wset w r (true, eI 18 h)).2 a = some (true, oW r u bl) := by rw [wset_n hne]; exact hO
  have hO2k : (wset w r (true, eI 18 h)).2 b = some (true, oW s v bm) := by rw [wset_n hn21]; exact hO2
  have hR2k : (wset w r (true, eI 18 h)).2 s = some (true, eI 18 g) := by rw [wset_n (Ne.symm hrs)]; exact hR2
  refine g_iload C dX5_takeFromSize_15 rfl ?_
  refine g_iload_n C dX5_takeFromSize_17 rfl ?_
  refine g_icmp_ge (tgt := 69) C dX5_takeFromSize_18 (by decide) (by omega) (by omega) (fun h18 => ?_) (fun h18 => ?_)
  · refine g_aload_n C dX5_takeFromSize_69 rfl ?_
    refine g_iload_n C dX5_takeFromSize_70 rfl ?_
    refine g_callV C (s_X5_trim _ (p := e) hOk wset_s hdh he1 hbl) (ci := 7) rfl hOk rfl ml_RX5_30 im_yX5_trim se_RX5_yX5_trim in_RX5 co_yX5_trim hd_X5_trim rfl ⟨by omega, by omega⟩ rfl (Nat.le_of_ble_eq_true rfl) ⟨by omega, by omega⟩ dX5_takeFromSize_71 (fun v71 w71 hp71 => ?_)
    obtain ⟨rfl, hw9, fr9⟩ := hp71
    exact g_return C hQ dX5_takeFromSize_74 (Nat.le_refl _) (Nat.le_refl _) ⟨rfl, hw9, ⟨fr9.1, fun x h3 h4 => by rw [fr9.2 x h3, wset_n h4]⟩⟩
  · have hfk := hdh j (by omega)
    have hgk := hg j (by omega)
    have hm28 := mod28 (g j - h j - c)
    have J62 : ∀ c2 : Int, (c2 = 0 ∨ c2 = 1) → G E X 6 62 [some (.ref a), some (.ref b), some (iI (e : Int)), some (iI c), some (iI (j : Int)), some (iI (g j - h j - c))] [iI c2] (wset w r (true, eI 18 (iup h j ((g j - h j - c) % B28)))) 0 0 := by
      intro c2 hc2
      refine g_istore_n C dX5_takeFromSize_62 (by decide) rfl ?_
      refine g_iinc C dX5_takeFromSize_63 rfl (by decide) rfl ?_
      refine g_goto (tgt := 15) C dX5_takeFromSize_66 (by decide) ?_
      refine g_drop 5 ?_
      exact ih (j + 1, c2, iup h j ((g j - h j - c) % B28)) ⟨by dsimp only; omega, by dsimp only; omega, hdh.up _ hm28⟩ (by dsimp only; omega)
    refine g_aload_n C dX5_takeFromSize_21 rfl ?_
    refine g_get (ci := 7) C rfl inTX5 0 (by decide) fl_RX5_9 rfl hO2k rfl dX5_takeFromSize_22 ?_
    refine g_iload C dX5_takeFromSize_25 rfl ?_
    refine g_ialoadN (j) C hR2k (by omega) (by omega) dX5_takeFromSize_27 ?_
    refine g_aload_n C dX5_takeFromSize_28 rfl ?_
    refine g_get (ci := 7) C rfl inTX5 0 (by decide) fl_RX5_9 rfl hOk rfl dX5_takeFromSize_29 ?_
    refine g_iload C dX5_takeFromSize_32 rfl ?_
    refine g_ialoadN (j) C wset_s (by omega) (by omega) dX5_takeFromSize_34 ?_
    refine g_isub C dX5_takeFromSize_35 ?_
    refine g_iload_n C dX5_takeFromSize_36 rfl ?_
    refine g_isub C dX5_takeFromSize_37 ?_
    refine g_istore C dX5_takeFromSize_38 (by decide) rfl ?_
    refine g_aload_n C dX5_takeFromSize_40 rfl ?_
    refine g_get (ci := 7) C rfl inTX5 0 (by decide) fl_RX5_9 rfl hOk rfl dX5_takeFromSize_41 ?_
    refine g_iload C dX5_takeFromSize_44 rfl ?_
    refine g_iload C dX5_takeFromSize_46 rfl ?_
    refine g_ldc (z := 268435455) C ko_RX5_69 (by decide) dX5_takeFromSize_48 ?_
    refine g_iand (z := (g j - h j - c) % B28) C dX5_takeFromSize_50 (i_mask 28 (by omega) mask28) ?_
    refine g_iastoreN (j) C wset_s (by omega) (by omega) dX5_takeFromSize_51 ?_
    rw [wset_set]
    refine g_iload C dX5_takeFromSize_52 rfl ?_
    refine g_if_ge (tgt := 61) C dX5_takeFromSize_54 (by decide) (by omega) (fun h54 => ?_) (fun h54 => ?_)
    · refine g_iconst C dX5_takeFromSize_61 ?_
      exact J62 _ (by omega)
    · refine g_iconst C dX5_takeFromSize_57 ?_
      refine g_goto (tgt := 62) C dX5_takeFromSize_58 (by decide) ?_
      exact J62 _ (by omega)
set_option maxHeartbeats 4000000 in
set_option maxRecDepth 100000 in
theorem s_X5_addOrTake (l : Launch) {E : GE} {w : Wd} {a r b s : Nat} (h1 : WS w a r) (h2 : WS w b s) {y : Int} (hy : y = 0 ∨ y = 1) (hrs : r ≠ s) : Sp E l yX5_addOrTake cX5_addOrTake 4 none 2 (0) (0) [.ref a, .ref b, iI y] w (fun r' w' => r' = none ∧ WS w' a r ∧ FrW w w' a r) := by
  refine sp_intro [some (.ref a), some (.ref b), some (iI y), none] rfl (Nat.le_of_ble_eq_true rfl) pn_X5 ?_
  intro X C hRm hl hnm hQ
  obtain ⟨hRf, hRl, hRc, hRs⟩ := hRm
  refine g_wf (fun hwf => ?_)
  have hB28 : B28 = 268435456 := rfl
  obtain ⟨f, u, bl, hO, hR, hf, hu18, hbl⟩ := id h1
  obtain ⟨g, v, bm, hO2, hR2, hg, hv18, hbm⟩ := id h2
  have hne := oI_ne hO hR
  have hne2 := oI_ne hO2 hR2
  have hn12 := oI_ne hO hR2
  have hn21 := oI_ne hO2 hR
  have hab := oo_ne hO hO2 hrs
  have J13 : ∀ q : Int, (q = 0 ∨ q = 1) → G E X 4 13 [some (.ref a), some (.ref b), some (iI y), none] [iI q] w 0 0 := by
    intro q hq
    refine g_istore_n C dX5_addOrTake_13 (by decide) rfl ?_
    refine g_aload_n C dX5_addOrTake_14 rfl ?_
    refine g_get (ci := 7) C rfl inTX5 2 (by decide) fl_RX5_13 rfl hO rfl dX5_addOrTake_15 ?_
    refine g_iload_n C dX5_addOrTake_18 rfl ?_
    refine g_icmp_ne (tgt := 30) C dX5_addOrTake_19 (by decide) (by omega) (by omega) (fun h19 => ?_) (fun h19 => ?_)
    · refine g_aload_n C dX5_addOrTake_30 rfl ?_
      refine g_aload_n C dX5_addOrTake_31 rfl ?_
      refine g_callV C (s_X5_compareSize _ h1 h2) (ci := 7) rfl hO rfl ml_RX5_50 im_yX5_compareSize se_RX5_yX5_compareSize in_RX5 co_yX5_compareSize hd_X5_compareSize rfl ⟨by omega, by omega⟩ rfl (Nat.le_of_ble_eq_true rfl) ⟨by omega, by omega⟩ dX5_addOrTake_32 (fun v32 w32 hp32 => ?_)
      obtain ⟨⟨d32, rfl, hd32⟩, hw32⟩ := hp32
      subst w32
      refine g_if_lt (tgt := 46) C dX5_addOrTake_35 (by decide) (by omega) (fun h35 => ?_) (fun h35 => ?_)
      · refine g_aload_n C dX5_addOrTake_46 rfl ?_
        refine g_iload_n C dX5_addOrTake_47 rfl ?_
        refine g_put (ci := 7) C rfl inTX5 tyX5 tyX5_ok nmX5 2 (by decide) fl_RX5_13 rfl rfl hO (Nat.le_of_ble_eq_true rfl) (by rcases hq with c | c <;> (rw [c]; rfl)) (by rcases hq with c | c <;> (rw [c]; rfl)) dX5_addOrTake_48 ?_
        have k3 : WS (wset w a (true, eO 7 [.ref r, iI (u : Int), iI q])) a r := ⟨f, u, q, wset_s, by rw [wset_n (Ne.symm hne)]; exact hR, hf, hu18, hq⟩
        have k4 : WS (wset w a (true, eO 7 [.ref r, iI (u : Int), iI q])) b s := ⟨g, v, bm, by rw [wset_n (Ne.symm hab)]; exact hO2, by rw [wset_n (Ne.symm hn12)]; exact hR2, hg, hv18, hbm⟩
        refine g_aload_n C dX5_addOrTake_51 rfl ?_
        refine g_aload_n C dX5_addOrTake_52 rfl ?_
        refine g_callV C (s_X5_takeFromSize _ k3 k4 hrs) (ci := 7) rfl wset_s rfl ml_RX5_57 im_yX5_takeFromSize se_RX5_yX5_takeFromSize in_RX5 co_yX5_takeFromSize hd_X5_takeFromSize rfl ⟨by omega, by omega⟩ rfl (Nat.le_of_ble_eq_true rfl) ⟨by omega, by omega⟩ dX5_addOrTake_53 (fun v53 w53 hp53 => ?_)
        obtain ⟨rfl, r53, fr53⟩ := hp53
        exact g_return C hQ dX5_addOrTake_56 (Nat.le_refl _) (Nat.le_refl _) (by first | exact ⟨rfl, r24, fr24⟩ | exact ⟨rfl, r40, fr40⟩ | exact ⟨rfl, r53, ((FrW.rf w a r).set (Or.inl rfl) _).tr fr53⟩)
      · refine g_aload_n C dX5_addOrTake_38 rfl ?_
        refine g_aload_n C dX5_addOrTake_39 rfl ?_
        refine g_callV C (s_X5_takeSize _ h1 h2 hrs) (ci := 7) rfl hO rfl ml_RX5_54 im_yX5_takeSize se_RX5_yX5_takeSize in_RX5 co_yX5_takeSize hd_X5_takeSize rfl ⟨by omega, by omega⟩ rfl (Nat.le_of_ble_eq_true rfl) ⟨by omega, by omega⟩ dX5_addOrTake_40 (fun v40 w40 hp40 => ?_)
        obtain ⟨rfl, r40, fr40⟩ := hp40
        refine g_goto (tgt := 56) C dX5_addOrTake_43 (by decide) ?_
        exact g_return C hQ dX5_addOrTake_56 (Nat.le_refl _) (Nat.le_refl _) (by first | exact ⟨rfl, r24, fr24⟩ | exact ⟨rfl, r40, fr40⟩ | exact ⟨rfl, r53, ((FrW.rf w a r).set (Or.inl rfl) _).tr fr53⟩)
    · refine g_aload_n C dX5_addOrTake_22 rfl ?_
      refine g_aload_n C dX5_addOrTake_23 rfl ?_
      refine g_callV C (s_X5_addSize _ h1 h2 hrs) (ci := 7) rfl hO rfl ml_RX5_46 im_yX5_addSize se_RX5_yX5_addSize in_RX5 co_yX5_addSize hd_X5_addSize rfl ⟨by omega, by omega⟩ rfl (Nat.le_of_ble_eq_true rfl) ⟨by omega, by omega⟩ dX5_addOrTake_24 (fun v24 w24 hp24 => ?_)
      obtain ⟨rfl, r24, fr24⟩ := hp24
      refine g_goto (tgt := 56) C dX5_addOrTake_27 (by decide) ?_
      exact g_return C hQ dX5_addOrTake_56 (Nat.le_refl _) (Nat.le_refl _) (by first | exact ⟨rfl, r24, fr24⟩ | exact ⟨rfl, r40, fr40⟩ | exact ⟨rfl, r53, ((FrW.rf w a r).set (Or.inl rfl) _).tr fr53⟩)
  refine g_aload_n C dX5_addOrTake_0 rfl ?_
  refine g_get (ci := 7) C rfl inTX5 2 (by decide) fl_RX5_13 rfl hO2 rfl dX5_addOrTake_1 ?_
  refine g_iload_n C dX5_addOrTake_4 rfl ?_
  refine g_icmp_eq (tgt := 12) C dX5_addOrTake_5 (by decide) (by omega) (by omega) (fun h5 => ?_) (fun h5 => ?_)
  · refine g_iconst C dX5_addOrTake_12 ?_
    exact J13 _ (by omega)
  · refine g_iconst C dX5_addOrTake_8 ?_
    refine g_goto (tgt := 13) C dX5_addOrTake_9 (by decide) ?_
    exact J13 _ (by omega)
theorem g_ldcw {E X own cc nL ret pc L st w k n} (C : CX E X own cc nL ret) {z : Int} {v : Int32} {index : Nat} (ko : Cond.constant own index v ∈ GT) (hv : v = Int32.ofInt z) (d : decode cc pc = .ok (.ldc_w index, 3)) (kk : G E X nL (pc + 3) L (iI z :: st) w k n) : G E X nL pc L st w k n := by
  subst hv
  exact fun H locs ls h1 h2 h3 => lv_ldcw C.ex C.co C.ow (C.ts _ ko) d (kk H locs ls h1 h2 h3)
theorem g_ixor {E X own cc nL ret pc L st w k n} {x y z : Int} (C : CX E X own cc nL ret) (d : decode cc pc = .ok (.ixor, 1)) (h : Int32.ofInt x ^^^ Int32.ofInt y = Int32.ofInt z) (kk : G E X nL (pc + 1) L (iI z :: st) w k n) : G E X nL pc L (iI y :: iI x :: st) w k n :=
  fun H locs ls h1 h2 h3 => lv_ixor C.ex C.co d (by rw [h]; exact kk H locs ls h1 h2 h3)
theorem g_lxor {E X own cc nL ret pc L st w k n} {x y z : Int} (C : CX E X own cc nL ret) (d : decode cc pc = .ok (.lxor, 1)) (h : Int64.ofInt x ^^^ Int64.ofInt y = Int64.ofInt z) (kk : G E X nL (pc + 1) L (jJ z :: st) w k n) : G E X nL pc L (jJ y :: jJ x :: st) w k n :=
  fun H locs ls h1 h2 h3 => lv_lxor C.ex C.co d (by rw [h]; exact kk H locs ls h1 h2 h3)
theorem gen32 (X : Int32) : ∃ z : Int, X = Int32.ofInt z ∧ -2147483648 ≤ z ∧ z < 2147483648 := ⟨X.toInt, (Int32.ofInt_toInt X).symm, Int32.le_toInt X, by have := Int32.toInt_lt X; omega⟩
theorem gen64 (X : Int64) : ∃ z : Int, X = Int64.ofInt z ∧ -9223372036854775808 ≤ z ∧ z < 9223372036854775808 := ⟨X.toInt, (Int64.ofInt_toInt X).symm, Int64.le_toInt X, by have := Int64.toInt_lt X; omega⟩
theorem or28 {x y : Int} (hx : 0 ≤ x ∧ x < B28) (hy : 0 ≤ y ∧ y < B28) : ∃ z : Int, Int32.ofInt x ||| Int32.ofInt y = Int32.ofInt z ∧ 0 ≤ z ∧ z < B28 := by
  obtain ⟨a, rfl⟩ := Int.eq_ofNat_of_zero_le hx.1
  obtain ⟨b, rfl⟩ := Int.eq_ofNat_of_zero_le hy.1
  have hB28 : B28 = 268435456 := rfl
  have ha : a < 2 ^ 28 := by omega
  have hb : b < 2 ^ 28 := by omega
  refine ⟨((a ||| b : Nat) : Int), ?_, by omega, by have := Nat.or_lt_two_pow ha hb; omega⟩
  apply Int32.toBitVec_inj.mp
  show BitVec.ofInt 32 _ ||| BitVec.ofInt 32 _ = BitVec.ofInt 32 _
  rw [BitVec.ofInt_natCast, BitVec.ofInt_natCast, BitVec.ofInt_natCast, ← BitVec.ofNat_or]
theorem ushr28 (x : Int) : ∃ z : Int, ((Int64.ofInt x).toUInt64 >>> ((Int32.ofInt 28).toInt64.toUInt64 &&& Int64.toUInt64 63)).toInt64 = Int64.ofInt z ∧ 0 ≤ z ∧ z < 68719476736 := by
  generalize hX : (Int64.ofInt x).toUInt64 = X
  have hD : ((Int32.ofInt 28).toInt64.toUInt64 &&& Int64.toUInt64 63).toBitVec.toNat % 64 = 28 := by decide
  generalize (Int32.ofInt 28).toInt64.toUInt64 &&& Int64.toUInt64 63 = D at hD
  have hk := UInt64.toNat_lt X
  refine ⟨((X.toNat / 2 ^ 28 : Nat) : Int), ?_, by omega, by omega⟩
  have e1 : X >>> D = UInt64.ofNat (X.toNat / 2 ^ 28) := by
    apply UInt64.toNat_inj.mp
    rw [UInt64.toNat_shiftRight, UInt64.toNat_ofNat_of_lt' (by show _ < 2 ^ 64; omega), Nat.shiftRight_eq_div_pow]
    congr 2
  rw [e1]
  apply Int64.toBitVec_inj.mp
  show (UInt64.ofNat (X.toNat / 2 ^ 28)).toBitVec = BitVec.ofInt 64 _
  rw [BitVec.ofInt_natCast]; rfl
set_option maxHeartbeats 4000000 in
set_option maxRecDepth 100000 in
theorem s_J6_numberOfLeadingZeros_0f7a4 (l : Launch) {E : GE} {w : Wd} {x : Int} (hx : 0 ≤ x ∧ x < 2147483648) : Sp E l yJ6_numberOfLeadingZeros_0f7a4 cJ6_numberOfLeadingZeros_0f7a4 2 (some .int) 0 (0) (0) [iI x] w (fun r' w' => (∃ d : Int, r' = some (iI d) ∧ 0 ≤ d ∧ d ≤ 32) ∧ w' = w) := by
  refine sp_intro [some (iI x), none] rfl (Nat.le_of_ble_eq_true rfl) pn_J6 ?_
  intro X C hRm hl hnm hQ
  obtain ⟨hRf, hRl, hRc, hRs⟩ := hRm
  refine g_wf (fun hwf => ?_)
  refine g_iload_n C dJ6_numberOfLeadingZeros_0f7a4_0 rfl ?_
  refine g_if_gt (tgt := 15) C dJ6_numberOfLeadingZeros_0f7a4_1 (by decide) (by omega) (fun h1 => ?_) (fun h1 => ?_)
  · refine g_bipush C dJ6_numberOfLeadingZeros_0f7a4_15 (by decide) ?_
    refine g_istore_n C dJ6_numberOfLeadingZeros_0f7a4_17 (by decide) rfl ?_
    refine g_iload_n C dJ6_numberOfLeadingZeros_0f7a4_18 rfl ?_
    refine g_ldcw (z := 65536) C ko_RJ6_264 (by decide) dJ6_numberOfLeadingZeros_0f7a4_19 ?_
    refine g_icmp_lt (tgt := 33) C dJ6_numberOfLeadingZeros_0f7a4_22 (by decide) (by omega) (by omega) (fun h22 => ?_) (fun h22 => ?_)
    · refine g_iload_n C dJ6_numberOfLeadingZeros_0f7a4_33 rfl ?_
      refine g_sipush C dJ6_numberOfLeadingZeros_0f7a4_34 (by decide) ?_
      refine g_icmp_lt (tgt := 48) C dJ6_numberOfLeadingZeros_0f7a4_37 (by decide) (by omega) (by omega) (fun h37 => ?_) (fun h37 => ?_)
      · refine g_iload_n C dJ6_numberOfLeadingZeros_0f7a4_48 rfl ?_
        refine g_bipush C dJ6_numberOfLeadingZeros_0f7a4_49 (by decide) ?_
        refine g_icmp_lt (tgt := 61) C dJ6_numberOfLeadingZeros_0f7a4_51 (by decide) (by omega) (by omega) (fun h51 => ?_) (fun h51 => ?_)
        · refine g_iload_n C dJ6_numberOfLeadingZeros_0f7a4_61 rfl ?_
          refine g_iconst C dJ6_numberOfLeadingZeros_0f7a4_62 ?_
          refine g_icmp_lt (tgt := 73) C dJ6_numberOfLeadingZeros_0f7a4_63 (by decide) (by omega) (by omega) (fun h63 => ?_) (fun h63 => ?_)
          · refine g_iload_n C dJ6_numberOfLeadingZeros_0f7a4_73 rfl ?_
            refine g_iload_n C dJ6_numberOfLeadingZeros_0f7a4_74 rfl ?_
            refine g_iconst C dJ6_numberOfLeadingZeros_0f7a4_75 ?_
            refine g_iushr (z := _) C dJ6_numberOfLeadingZeros_0f7a4_76 (i_ushr 1 (by omega) (by omega) (by decide)) ?_
            refine g_isub C dJ6_numberOfLeadingZeros_0f7a4_77 ?_
            exact g_ireturn C hQ dJ6_numberOfLeadingZeros_0f7a4_78 (Nat.le_refl _) (Nat.le_refl _) ⟨⟨_, rfl, by omega, by omega⟩, rfl⟩
          · refine g_iinc C dJ6_numberOfLeadingZeros_0f7a4_66 rfl (by decide) rfl ?_
            refine g_iload_n C dJ6_numberOfLeadingZeros_0f7a4_69 rfl ?_
            refine g_iconst C dJ6_numberOfLeadingZeros_0f7a4_70 ?_
            refine g_iushr (z := _) C dJ6_numberOfLeadingZeros_0f7a4_71 (i_ushr 2 (by omega) (by omega) (by decide)) ?_
            refine g_istore_n C dJ6_numberOfLeadingZeros_0f7a4_72 (by decide) rfl ?_
            refine g_iload_n C dJ6_numberOfLeadingZeros_0f7a4_73 rfl ?_
            refine g_iload_n C dJ6_numberOfLeadingZeros_0f7a4_74 rfl ?_
            refine g_iconst C dJ6_numberOfLeadingZeros_0f7a4_75 ?_
            refine g_iushr (z := _) C dJ6_numberOfLeadingZeros_0f7a4_76 (i_ushr 1 (by omega) (by omega) (by decide)) ?_
            refine g_isub C dJ6_numberOfLeadingZeros_0f7a4_77 ?_
            exact g_ireturn C hQ dJ6_numberOfLeadingZeros_0f7a4_78 (Nat.le_refl _) (Nat.le_refl _) ⟨⟨_, rfl, by omega, by omega⟩, rfl⟩
        · refine g_iinc C dJ6_numberOfLeadingZeros_0f7a4_54 rfl (by decide) rfl ?_
          refine g_iload_n C dJ6_numberOfLeadingZeros_0f7a4_57 rfl ?_
          refine g_iconst C dJ6_numberOfLeadingZeros_0f7a4_58 ?_
          refine g_iushr (z := _) C dJ6_numberOfLeadingZeros_0f7a4_59 (i_ushr 4 (by omega) (by omega) (by decide)) ?_
          refine g_istore_n C dJ6_numberOfLeadingZeros_0f7a4_60 (by decide) rfl ?_
          refine g_iload_n C dJ6_numberOfLeadingZeros_0f7a4_61 rfl ?_
          refine g_iconst C dJ6_numberOfLeadingZeros_0f7a4_62 ?_
          refine g_icmp_lt (tgt := 73) C dJ6_numberOfLeadingZeros_0f7a4_63 (by decide) (by omega) (by omega) (fun h63 => ?_) (fun h63 => ?_)
          · refine g_iload_n C dJ6_numberOfLeadingZeros_0f7a4_73 rfl ?_
            refine g_iload_n C dJ6_numberOfLeadingZeros_0f7a4_74 rfl ?_
            refine g_iconst C dJ6_numberOfLeadingZeros_0f7a4_75 ?_
            refine g_iushr (z := _) C dJ6_numberOfLeadingZeros_0f7a4_76 (i_ushr 1 (by omega) (by omega) (by decide)) ?_
            refine g_isub C dJ6_numberOfLeadingZeros_0f7a4_77 ?_
            exact g_ireturn C hQ dJ6_numberOfLeadingZeros_0f7a4_78 (Nat.le_refl _) (Nat.le_refl _) ⟨⟨_, rfl, by omega, by omega⟩, rfl⟩
          · refine g_iinc C dJ6_numberOfLeadingZeros_0f7a4_66 rfl (by decide) rfl ?_
            refine g_iload_n C dJ6_numberOfLeadingZeros_0f7a4_69 rfl ?_
            refine g_iconst C dJ6_numberOfLeadingZeros_0f7a4_70 ?_
            refine g_iushr (z := _) C dJ6_numberOfLeadingZeros_0f7a4_71 (i_ushr 2 (by omega) (by omega) (by decide)) ?_
            refine g_istore_n C dJ6_numberOfLeadingZeros_0f7a4_72 (by decide) rfl ?_
            refine g_iload_n C dJ6_numberOfLeadingZeros_0f7a4_73 rfl ?_
            refine g_iload_n C dJ6_numberOfLeadingZeros_0f7a4_74 rfl ?_
            refine g_iconst C dJ6_numberOfLeadingZeros_0f7a4_75 ?_
            refine g_iushr (z := _) C dJ6_numberOfLeadingZeros_0f7a4_76 (i_ushr 1 (by omega) (by omega) (by decide)) ?_
            refine g_isub C dJ6_numberOfLeadingZeros_0f7a4_77 ?_
            exact g_ireturn C hQ dJ6_numberOfLeadingZeros_0f7a4_78 (Nat.le_refl _) (Nat.le_refl _) ⟨⟨_, rfl, by omega, by omega⟩, rfl⟩
      · refine g_iinc C dJ6_numberOfLeadingZeros_0f7a4_40 rfl (by decide) rfl ?_
        refine g_iload_n C dJ6_numberOfLeadingZeros_0f7a4_43 rfl ?_
        refine g_bipush C dJ6_numberOfLeadingZeros_0f7a4_44 (by decide) ?_
        refine g_iushr (z := _) C dJ6_numberOfLeadingZeros_0f7a4_46 (i_ushr 8 (by omega) (by omega) (by decide)) ?_
        refine g_istore_n C dJ6_numberOfLeadingZeros_0f7a4_47 (by decide) rfl ?_
        refine g_iload_n C dJ6_numberOfLeadingZeros_0f7a4_48 rfl ?_
        refine g_bipush C dJ6_numberOfLeadingZeros_0f7a4_49 (by decide) ?_
        refine g_icmp_lt (tgt := 61) C dJ6_numberOfLeadingZeros_0f7a4_51 (by decide) (by omega) (by omega) (fun h51 => ?_) (fun h51 => ?_)
        · refine g_iload_n C dJ6_numberOfLeadingZeros_0f7a4_61 rfl ?_
          refine g_iconst C dJ6_numberOfLeadingZeros_0f7a4_62 ?_
          refine g_icmp_lt (tgt := 73) C dJ6_numberOfLeadingZeros_0f7a4_63 (by decide) (by omega) (by omega) (fun h63 => ?_) (fun h63 => ?_)
          · refine g_iload_n C dJ6_numberOfLeadingZeros_0f7a4_73 rfl ?_
            refine g_iload_n C dJ6_numberOfLeadingZeros_0f7a4_74 rfl ?_
            refine g_iconst C dJ6_numberOfLeadingZeros_0f7a4_75 ?_
            refine g_iushr (z := _) C dJ6_numberOfLeadingZeros_0f7a4_76 (i_ushr 1 (by omega) (by omega) (by decide)) ?_
            refine g_isub C dJ6_numberOfLeadingZeros_0f7a4_77 ?_
            exact g_ireturn C hQ dJ6_numberOfLeadingZeros_0f7a4_78 (Nat.le_refl _) (Nat.le_refl _) ⟨⟨_, rfl, by omega, by omega⟩, rfl⟩
          · refine g_iinc C dJ6_numberOfLeadingZeros_0f7a4_66 rfl (by decide) rfl ?_
            refine g_iload_n C dJ6_numberOfLeadingZeros_0f7a4_69 rfl ?_
            refine g_iconst C dJ6_numberOfLeadingZeros_0f7a4_70 ?_
            refine g_iushr (z := _) C dJ6_numberOfLeadingZeros_0f7a4_71 (i_ushr 2 (by omega) (by omega) (by decide)) ?_
            refine g_istore_n C dJ6_numberOfLeadingZeros_0f7a4_72 (by decide) rfl ?_
            refine g_iload_n C dJ6_numberOfLeadingZeros_0f7a4_73 rfl ?_
            refine g_iload_n C dJ6_numberOfLeadingZeros_0f7a4_74 rfl ?_
            refine g_iconst C dJ6_numberOfLeadingZeros_0f7a4_75 ?_
            refine g_iushr (z := _) C dJ6_numberOfLeadingZeros_0f7a4_76 (i_ushr 1 (by omega) (by omega) (by decide)) ?_
            refine g_isub C dJ6_numberOfLeadingZeros_0f7a4_77 ?_
            exact g_ireturn C hQ dJ6_numberOfLeadingZeros_0f7a4_78 (Nat.le_refl _) (Nat.le_refl _) ⟨⟨_, rfl, by omega, by omega⟩, rfl⟩
        · refine g_iinc C dJ6_numberOfLeadingZeros_0f7a4_54 rfl (by decide) rfl ?_
          refine g_iload_n C dJ6_numberOfLeadingZeros_0f7a4_57 rfl ?_
          refine g_iconst C dJ6_numberOfLeadingZeros_0f7a4_58 ?_
          refine g_iushr (z := _) C dJ6_numberOfLeadingZeros_0f7a4_59 (i_ushr 4 (by omega) (by omega) (by decide)) ?_
          refine g_istore_n C dJ6_numberOfLeadingZeros_0f7a4_60 (by decide) rfl ?_
          refine g_iload_n C dJ6_numberOfLeadingZeros_0f7a4_61 rfl ?_
          refine g_iconst C dJ6_numberOfLeadingZeros_0f7a4_62 ?_
          refine g_icmp_lt (tgt := 73) C dJ6_numberOfLeadingZeros_0f7a4_63 (by decide) (by omega) (by omega) (fun h63 => ?_) (fun h63 => ?_)
          · refine g_iload_n C dJ6_numberOfLeadingZeros_0f7a4_73 rfl ?_
            refine g_iload_n C dJ6_numberOfLeadingZeros_0f7a4_74 rfl ?_
            refine g_iconst C dJ6_numberOfLeadingZeros_0f7a4_75 ?_
            refine g_iushr (z := _) C dJ6_numberOfLeadingZeros_0f7a4_76 (i_ushr 1 (by omega) (by omega) (by decide)) ?_
            refine g_isub C dJ6_numberOfLeadingZeros_0f7a4_77 ?_
            exact g_ireturn C hQ dJ6_numberOfLeadingZeros_0f7a4_78 (Nat.le_refl _) (Nat.le_refl _) ⟨⟨_, rfl, by omega, by omega⟩, rfl⟩
          · refine g_iinc C dJ6_numberOfLeadingZeros_0f7a4_66 rfl (by decide) rfl ?_
            refine g_iload_n C dJ6_numberOfLeadingZeros_0f7a4_69 rfl ?_
            refine g_iconst C dJ6_numberOfLeadingZeros_0f7a4_70 ?_
            refine g_iushr (z := _) C dJ6_numberOfLeadingZeros_0f7a4_71 (i_ushr 2 (by omega) (by omega) (by decide)) ?_
            refine g_istore_n C dJ6_numberOfLeadingZeros_0f7a4_72 (by decide) rfl ?_
            refine g_iload_n C dJ6_numberOfLeadingZeros_0f7a4_73 rfl ?_
            refine g_iload_n C dJ6_numberOfLeadingZeros_0f7a4_74 rfl ?_
            refine g_iconst C dJ6_numberOfLeadingZeros_0f7a4_75 ?_
            refine g_iushr (z := _) C dJ6_numberOfLeadingZeros_0f7a4_76 (i_ushr 1 (by omega) (by omega) (by decide)) ?_
            refine g_isub C dJ6_numberOfLeadingZeros_0f7a4_77 ?_
            exact g_ireturn C hQ dJ6_numberOfLeadingZeros_0f7a4_78 (Nat.le_refl _) (Nat.le_refl _) ⟨⟨_, rfl, by omega, by omega⟩, rfl⟩
    · refine g_iinc C dJ6_numberOfLeadingZeros_0f7a4_25 rfl (by decide) rfl ?_
      refine g_iload_n C dJ6_numberOfLeadingZeros_0f7a4_28 rfl ?_
      refine g_bipush C dJ6_numberOfLeadingZeros_0f7a4_29 (by decide) ?_
      refine g_iushr (z := _) C dJ6_numberOfLeadingZeros_0f7a4_31 (i_ushr 16 (by omega) (by omega) (by decide)) ?_
      refine g_istore_n C dJ6_numberOfLeadingZeros_0f7a4_32 (by decide) rfl ?_
      refine g_iload_n C dJ6_numberOfLeadingZeros_0f7a4_33 rfl ?_
      refine g_sipush C dJ6_numberOfLeadingZeros_0f7a4_34 (by decide) ?_
      refine g_icmp_lt (tgt := 48) C dJ6_numberOfLeadingZeros_0f7a4_37 (by decide) (by omega) (by omega) (fun h37 => ?_) (fun h37 => ?_)
      · refine g_iload_n C dJ6_numberOfLeadingZeros_0f7a4_48 rfl ?_
        refine g_bipush C dJ6_numberOfLeadingZeros_0f7a4_49 (by decide) ?_
        refine g_icmp_lt (tgt := 61) C dJ6_numberOfLeadingZeros_0f7a4_51 (by decide) (by omega) (by omega) (fun h51 => ?_) (fun h51 => ?_)
        · refine g_iload_n C dJ6_numberOfLeadingZeros_0f7a4_61 rfl ?_
          refine g_iconst C dJ6_numberOfLeadingZeros_0f7a4_62 ?_
          refine g_icmp_lt (tgt := 73) C dJ6_numberOfLeadingZeros_0f7a4_63 (by decide) (by omega) (by omega) (fun h63 => ?_) (fun h63 => ?_)
          · refine g_iload_n C dJ6_numberOfLeadingZeros_0f7a4_73 rfl ?_
            refine g_iload_n C dJ6_numberOfLeadingZeros_0f7a4_74 rfl ?_
            refine g_iconst C dJ6_numberOfLeadingZeros_0f7a4_75 ?_
            refine g_iushr (z := _) C dJ6_numberOfLeadingZeros_0f7a4_76 (i_ushr 1 (by omega) (by omega) (by decide)) ?_
            refine g_isub C dJ6_numberOfLeadingZeros_0f7a4_77 ?_
            exact g_ireturn C hQ dJ6_numberOfLeadingZeros_0f7a4_78 (Nat.le_refl _) (Nat.le_refl _) ⟨⟨_, rfl, by omega, by omega⟩, rfl⟩
          · refine g_iinc C dJ6_numberOfLeadingZeros_0f7a4_66 rfl (by decide) rfl ?_
            refine g_iload_n C dJ6_numberOfLeadingZeros_0f7a4_69 rfl ?_
            refine g_iconst C dJ6_numberOfLeadingZeros_0f7a4_70 ?_
            refine g_iushr (z := _) C dJ6_numberOfLeadingZeros_0f7a4_71 (i_ushr 2 (by omega) (by omega) (by decide)) ?_
            refine g_istore_n C dJ6_numberOfLeadingZeros_0f7a4_72 (by decide) rfl ?_
            refine g_iload_n C dJ6_numberOfLeadingZeros_0f7a4_73 rfl ?_
            refine g_iload_n C dJ6_numberOfLeadingZeros_0f7a4_74 rfl ?_
            refine g_iconst C dJ6_numberOfLeadingZeros_0f7a4_75 ?_
            refine g_iushr (z := _) C dJ6_numberOfLeadingZeros_0f7a4_76 (i_ushr 1 (by omega) (by omega) (by decide)) ?_
            refine g_isub C dJ6_numberOfLeadingZeros_0f7a4_77 ?_
            exact g_ireturn C hQ dJ6_numberOfLeadingZeros_0f7a4_78 (Nat.le_refl _) (Nat.le_refl _) ⟨⟨_, rfl, by omega, by omega⟩, rfl⟩
        · refine g_iinc C dJ6_numberOfLeadingZeros_0f7a4_54 rfl (by decide) rfl ?_
          refine g_iload_n C dJ6_numberOfLeadingZeros_0f7a4_57 rfl ?_
          refine g_iconst C dJ6_numberOfLeadingZeros_0f7a4_58 ?_
          refine g_iushr (z := _) C dJ6_numberOfLeadingZeros_0f7a4_59 (i_ushr 4 (by omega) (by omega) (by decide)) ?_
          refine g_istore_n C dJ6_numberOfLeadingZeros_0f7a4_60 (by decide) rfl ?_
          refine g_iload_n C dJ6_numberOfLeadingZeros_0f7a4_61 rfl ?_
          refine g_iconst C dJ6_numberOfLeadingZeros_0f7a4_62 ?_
          refine g_icmp_lt (tgt := 73) C dJ6_numberOfLeadingZeros_0f7a4_63 (by decide) (by omega) (by omega) (fun h63 => ?_) (fun h63 => ?_)
          · refine g_iload_n C dJ6_numberOfLeadingZeros_0f7a4_73 rfl ?_
            refine g_iload_n C dJ6_numberOfLeadingZeros_0f7a4_74 rfl ?_
            refine g_iconst C dJ6_numberOfLeadingZeros_0f7a4_75 ?_
            refine g_iushr (z := _) C dJ6_numberOfLeadingZeros_0f7a4_76 (i_ushr 1 (by omega) (by omega) (by decide)) ?_
            refine g_isub C dJ6_numberOfLeadingZeros_0f7a4_77 ?_
            exact g_ireturn C hQ dJ6_numberOfLeadingZeros_0f7a4_78 (Nat.le_refl _) (Nat.le_refl _) ⟨⟨_, rfl, by omega, by omega⟩, rfl⟩
          · refine g_iinc C dJ6_numberOfLeadingZeros_0f7a4_66 rfl (by decide) rfl ?_
            refine g_iload_n C dJ6_numberOfLeadingZeros_0f7a4_69 rfl ?_
            refine g_iconst C dJ6_numberOfLeadingZeros_0f7a4_70 ?_
            refine g_iushr (z := _) C dJ6_numberOfLeadingZeros_0f7a4_71 (i_ushr 2 (by omega) (by omega) (by decide)) ?_
            refine g_istore_n C dJ6_numberOfLeadingZeros_0f7a4_72 (by decide) rfl ?_
            refine g_iload_n C dJ6_numberOfLeadingZeros_0f7a4_73 rfl ?_
            refine g_iload_n C dJ6_numberOfLeadingZeros_0f7a4_74 rfl ?_
            refine g_iconst C dJ6_numberOfLeadingZeros_0f7a4_75 ?_
            refine g_iushr (z := _) C dJ6_numberOfLeadingZeros_0f7a4_76 (i_ushr 1 (by omega) (by omega) (by decide)) ?_
            refine g_isub C dJ6_numberOfLeadingZeros_0f7a4_77 ?_
            exact g_ireturn C hQ dJ6_numberOfLeadingZeros_0f7a4_78 (Nat.le_refl _) (Nat.le_refl _) ⟨⟨_, rfl, by omega, by omega⟩, rfl⟩
      · refine g_iinc C dJ6_numberOfLeadingZeros_0f7a4_40 rfl (by decide) rfl ?_
        refine g_iload_n C dJ6_numberOfLeadingZeros_0f7a4_43 rfl ?_
        refine g_bipush C dJ6_numberOfLeadingZeros_0f7a4_44 (by decide) ?_
        refine g_iushr (z := _) C dJ6_numberOfLeadingZeros_0f7a4_46 (i_ushr 8 (by omega) (by omega) (by decide)) ?_
        refine g_istore_n C dJ6_numberOfLeadingZeros_0f7a4_47 (by decide) rfl ?_
        refine g_iload_n C dJ6_numberOfLeadingZeros_0f7a4_48 rfl ?_
        refine g_bipush C dJ6_numberOfLeadingZeros_0f7a4_49 (by decide) ?_
        refine g_icmp_lt (tgt := 61) C dJ6_numberOfLeadingZeros_0f7a4_51 (by decide) (by omega) (by omega) (fun h51 => ?_) (fun h51 => ?_)
        · refine g_iload_n C dJ6_numberOfLeadingZeros_0f7a4_61 rfl ?_
          refine g_iconst C dJ6_numberOfLeadingZeros_0f7a4_62 ?_
          refine g_icmp_lt (tgt := 73) C dJ6_numberOfLeadingZeros_0f7a4_63 (by decide) (by omega) (by omega) (fun h63 => ?_) (fun h63 => ?_)
          · refine g_iload_n C dJ6_numberOfLeadingZeros_0f7a4_73 rfl ?_
            refine g_iload_n C dJ6_numberOfLeadingZeros_0f7a4_74 rfl ?_
            refine g_iconst C dJ6_numberOfLeadingZeros_0f7a4_75 ?_
            refine g_iushr (z := _) C dJ6_numberOfLeadingZeros_0f7a4_76 (i_ushr 1 (by omega) (by omega) (by decide)) ?_
            refine g_isub C dJ6_numberOfLeadingZeros_0f7a4_77 ?_
            exact g_ireturn C hQ dJ6_numberOfLeadingZeros_0f7a4_78 (Nat.le_refl _) (Nat.le_refl _) ⟨⟨_, rfl, by omega, by omega⟩, rfl⟩
          · refine g_iinc C dJ6_numberOfLeadingZeros_0f7a4_66 rfl (by decide) rfl ?_
            refine g_iload_n C dJ6_numberOfLeadingZeros_0f7a4_69 rfl ?_
            refine g_iconst C dJ6_numberOfLeadingZeros_0f7a4_70 ?_
            refine g_iushr (z := _) C dJ6_numberOfLeadingZeros_0f7a4_71 (i_ushr 2 (by omega) (by omega) (by decide)) ?_
            refine g_istore_n C dJ6_numberOfLeadingZeros_0f7a4_72 (by decide) rfl ?_
            refine g_iload_n C dJ6_numberOfLeadingZeros_0f7a4_73 rfl ?_
            refine g_iload_n C dJ6_numberOfLeadingZeros_0f7a4_74 rfl ?_
            refine g_iconst C dJ6_numberOfLeadingZeros_0f7a4_75 ?_
            refine g_iushr (z := _) C dJ6_numberOfLeadingZeros_0f7a4_76 (i_ushr 1 (by omega) (by omega) (by decide)) ?_
            refine g_isub C dJ6_numberOfLeadingZeros_0f7a4_77 ?_
            exact g_ireturn C hQ dJ6_numberOfLeadingZeros_0f7a4_78 (Nat.le_refl _) (Nat.le_refl _) ⟨⟨_, rfl, by omega, by omega⟩, rfl⟩
        · refine g_iinc C dJ6_numberOfLeadingZeros_0f7a4_54 rfl (by decide) rfl ?_
          refine g_iload_n C dJ6_numberOfLeadingZeros_0f7a4_57 rfl ?_
          refine g_iconst C dJ6_numberOfLeadingZeros_0f7a4_58 ?_
          refine g_iushr (z := _) C dJ6_numberOfLeadingZeros_0f7a4_59 (i_ushr 4 (by omega) (by omega) (by decide)) ?_
          refine g_istore_n C dJ6_numberOfLeadingZeros_0f7a4_60 (by decide) rfl ?_
          refine g_iload_n C dJ6_numberOfLeadingZeros_0f7a4_61 rfl ?_
          refine g_iconst C dJ6_numberOfLeadingZeros_0f7a4_62 ?_
          refine g_icmp_lt (tgt := 73) C dJ6_numberOfLeadingZeros_0f7a4_63 (by decide) (by omega) (by omega) (fun h63 => ?_) (fun h63 => ?_)
          · refine g_iload_n C dJ6_numberOfLeadingZeros_0f7a4_73 rfl ?_
            refine g_iload_n C dJ6_numberOfLeadingZeros_0f7a4_74 rfl ?_
            refine g_iconst C dJ6_numberOfLeadingZeros_0f7a4_75 ?_
            refine g_iushr (z := _) C dJ6_numberOfLeadingZeros_0f7a4_76 (i_ushr 1 (by omega) (by omega) (by decide)) ?_
            refine g_isub C dJ6_numberOfLeadingZeros_0f7a4_77 ?_
            exact g_ireturn C hQ dJ6_numberOfLeadingZeros_0f7a4_78 (Nat.le_refl _) (Nat.le_refl _) ⟨⟨_, rfl, by omega, by omega⟩, rfl⟩
          · refine g_iinc C dJ6_numberOfLeadingZeros_0f7a4_66 rfl (by decide) rfl ?_
            refine g_iload_n C dJ6_numberOfLeadingZeros_0f7a4_69 rfl ?_
            refine g_iconst C dJ6_numberOfLeadingZeros_0f7a4_70 ?_
            refine g_iushr (z := _) C dJ6_numberOfLeadingZeros_0f7a4_71 (i_ushr 2 (by omega) (by omega) (by decide)) ?_
            refine g_istore_n C dJ6_numberOfLeadingZeros_0f7a4_72 (by decide) rfl ?_
            refine g_iload_n C dJ6_numberOfLeadingZeros_0f7a4_73 rfl ?_
            refine g_iload_n C dJ6_numberOfLeadingZeros_0f7a4_74 rfl ?_
            refine g_iconst C dJ6_numberOfLeadingZeros_0f7a4_75 ?_
            refine g_iushr (z := _) C dJ6_numberOfLeadingZeros_0f7a4_76 (i_ushr 1 (by omega) (by omega) (by decide)) ?_
            refine g_isub C dJ6_numberOfLeadingZeros_0f7a4_77 ?_
            exact g_ireturn C hQ dJ6_numberOfLeadingZeros_0f7a4_78 (Nat.le_refl _) (Nat.le_refl _) ⟨⟨_, rfl, by omega, by omega⟩, rfl⟩
  · refine g_iload_n C dJ6_numberOfLeadingZeros_0f7a4_4 rfl ?_
    refine g_if_ne (tgt := 13) C dJ6_numberOfLeadingZeros_0f7a4_5 (by decide) (by omega) (fun h5 => ?_) (fun h5 => ?_)
    · refine g_iconst C dJ6_numberOfLeadingZeros_0f7a4_13 ?_
      exact g_ireturn C hQ dJ6_numberOfLeadingZeros_0f7a4_14 (Nat.le_refl _) (Nat.le_refl _) ⟨⟨_, rfl, by omega, by omega⟩, rfl⟩
    · refine g_bipush C dJ6_numberOfLeadingZeros_0f7a4_8 (by decide) ?_
      refine g_goto (tgt := 14) C dJ6_numberOfLeadingZeros_0f7a4_10 (by decide) ?_
      exact g_ireturn C hQ dJ6_numberOfLeadingZeros_0f7a4_14 (Nat.le_refl _) (Nat.le_refl _) ⟨⟨_, rfl, by omega, by omega⟩, rfl⟩
set_option maxHeartbeats 4000000 in
set_option maxRecDepth 100000 in
theorem s_J6_numberOfTrailingZeros_0f7a4 (l : Launch) {E : GE} {w : Wd} {x : Int} (hx : 0 ≤ x ∧ x < 2147483648) : Sp E l yJ6_numberOfTrailingZeros_0f7a4 cJ6_numberOfTrailingZeros_0f7a4 2 (some .int) 0 (0) (0) [iI x] w (fun r' w' => (∃ d : Int, r' = some (iI d) ∧ -2147483648 ≤ d ∧ d < 2147483648) ∧ w' = w) := by
  refine sp_intro [some (iI x), none] rfl (Nat.le_of_ble_eq_true rfl) pn_J6 ?_
  intro X C hRm hl hnm hQ
  obtain ⟨hRf, hRl, hRc, hRs⟩ := hRm
  refine g_wf (fun hwf => ?_)
  obtain ⟨z2, hz2, -, -⟩ := gen32 (Int32.ofInt x ^^^ Int32.ofInt (-1))
  obtain ⟨z6, hz6, hz6a, hz6b⟩ := gen32 (Int32.ofInt z2 &&& Int32.ofInt (x - 1))
  obtain ⟨z15, hz15, hz15a, hz15b⟩ := gen32 (Int32.ofInt z6 &&& Int32.ofInt 32)
  refine g_iload_n C dJ6_numberOfTrailingZeros_0f7a4_0 rfl ?_
  refine g_iconst C dJ6_numberOfTrailingZeros_0f7a4_1 ?_
  refine g_ixor (z := z2) C dJ6_numberOfTrailingZeros_0f7a4_2 hz2 ?_
  refine g_iload_n C dJ6_numberOfTrailingZeros_0f7a4_3 rfl ?_
  refine g_iconst C dJ6_numberOfTrailingZeros_0f7a4_4 ?_
  refine g_isub C dJ6_numberOfTrailingZeros_0f7a4_5 ?_
  refine g_iand (z := z6) C dJ6_numberOfTrailingZeros_0f7a4_6 hz6 ?_
  refine g_istore_n C dJ6_numberOfTrailingZeros_0f7a4_7 (by decide) rfl ?_
  refine g_iload_n C dJ6_numberOfTrailingZeros_0f7a4_8 rfl ?_
  refine g_if_gt (tgt := 17) C dJ6_numberOfTrailingZeros_0f7a4_9 (by decide) (by omega) (fun h9 => ?_) (fun h9 => ?_)
  · refine g_iconst C dJ6_numberOfTrailingZeros_0f7a4_17 ?_
    refine g_istore_n C dJ6_numberOfTrailingZeros_0f7a4_18 (by decide) rfl ?_
    refine g_iload_n C dJ6_numberOfTrailingZeros_0f7a4_19 rfl ?_
    refine g_ldcw (z := 65536) C ko_RJ6_264 (by decide) dJ6_numberOfTrailingZeros_0f7a4_20 ?_
    refine g_icmp_le (tgt := 34) C dJ6_numberOfTrailingZeros_0f7a4_23 (by decide) (by omega) (by omega) (fun h23 => ?_) (fun h23 => ?_)
    · refine g_iload_n C dJ6_numberOfTrailingZeros_0f7a4_34 rfl ?_
      refine g_sipush C dJ6_numberOfTrailingZeros_0f7a4_35 (by decide) ?_
      refine g_icmp_le (tgt := 49) C dJ6_numberOfTrailingZeros_0f7a4_38 (by decide) (by omega) (by omega) (fun h38 => ?_) (fun h38 => ?_)
      · refine g_iload_n C dJ6_numberOfTrailingZeros_0f7a4_49 rfl ?_
        refine g_bipush C dJ6_numberOfTrailingZeros_0f7a4_50 (by decide) ?_
        refine g_icmp_le (tgt := 62) C dJ6_numberOfTrailingZeros_0f7a4_52 (by decide) (by omega) (by omega) (fun h52 => ?_) (fun h52 => ?_)
        · refine g_iload_n C dJ6_numberOfTrailingZeros_0f7a4_62 rfl ?_
          refine g_iconst C dJ6_numberOfTrailingZeros_0f7a4_63 ?_
          refine g_icmp_le (tgt := 74) C dJ6_numberOfTrailingZeros_0f7a4_64 (by decide) (by omega) (by omega) (fun h64 => ?_) (fun h64 => ?_)
          · refine g_iload_n C dJ6_numberOfTrailingZeros_0f7a4_74 rfl ?_
            refine g_iload_n C dJ6_numberOfTrailingZeros_0f7a4_75 rfl ?_
            refine g_iconst C dJ6_numberOfTrailingZeros_0f7a4_76 ?_
            refine g_iushr (z := _) C dJ6_numberOfTrailingZeros_0f7a4_77 (i_ushr 1 (by omega) (by omega) (by decide)) ?_
            refine g_iadd C dJ6_numberOfTrailingZeros_0f7a4_78 ?_
            exact g_ireturn C hQ dJ6_numberOfTrailingZeros_0f7a4_79 (Nat.le_refl _) (Nat.le_refl _) ⟨⟨_, rfl, by omega, by omega⟩, rfl⟩
          · refine g_iinc C dJ6_numberOfTrailingZeros_0f7a4_67 rfl (by decide) rfl ?_
            refine g_iload_n C dJ6_numberOfTrailingZeros_0f7a4_70 rfl ?_
            refine g_iconst C dJ6_numberOfTrailingZeros_0f7a4_71 ?_
            refine g_iushr (z := _) C dJ6_numberOfTrailingZeros_0f7a4_72 (i_ushr 2 (by omega) (by omega) (by decide)) ?_
            refine g_istore_n C dJ6_numberOfTrailingZeros_0f7a4_73 (by decide) rfl ?_
            refine g_iload_n C dJ6_numberOfTrailingZeros_0f7a4_74 rfl ?_
            refine g_iload_n C dJ6_numberOfTrailingZeros_0f7a4_75 rfl ?_
            refine g_iconst C dJ6_numberOfTrailingZeros_0f7a4_76 ?_
            refine g_iushr (z := _) C dJ6_numberOfTrailingZeros_0f7a4_77 (i_ushr 1 (by omega) (by omega) (by decide)) ?_
            refine g_iadd C dJ6_numberOfTrailingZeros_0f7a4_78 ?_
            exact g_ireturn C hQ dJ6_numberOfTrailingZeros_0f7a4_79 (Nat.le_refl _) (Nat.le_refl _) ⟨⟨_, rfl, by omega, by omega⟩, rfl⟩
        · refine g_iinc C dJ6_numberOfTrailingZeros_0f7a4_55 rfl (by decide) rfl ?_
          refine g_iload_n C dJ6_numberOfTrailingZeros_0f7a4_58 rfl ?_
          refine g_iconst C dJ6_numberOfTrailingZeros_0f7a4_59 ?_
          refine g_iushr (z := _) C dJ6_numberOfTrailingZeros_0f7a4_60 (i_ushr 4 (by omega) (by omega) (by decide)) ?_
          refine g_istore_n C dJ6_numberOfTrailingZeros_0f7a4_61 (by decide) rfl ?_
          refine g_iload_n C dJ6_numberOfTrailingZeros_0f7a4_62 rfl ?_
          refine g_iconst C dJ6_numberOfTrailingZeros_0f7a4_63 ?_
          refine g_icmp_le (tgt := 74) C dJ6_numberOfTrailingZeros_0f7a4_64 (by decide) (by omega) (by omega) (fun h64 => ?_) (fun h64 => ?_)
          · refine g_iload_n C dJ6_numberOfTrailingZeros_0f7a4_74 rfl ?_
            refine g_iload_n C dJ6_numberOfTrailingZeros_0f7a4_75 rfl ?_
            refine g_iconst C dJ6_numberOfTrailingZeros_0f7a4_76 ?_
            refine g_iushr (z := _) C dJ6_numberOfTrailingZeros_0f7a4_77 (i_ushr 1 (by omega) (by omega) (by decide)) ?_
            refine g_iadd C dJ6_numberOfTrailingZeros_0f7a4_78 ?_
            exact g_ireturn C hQ dJ6_numberOfTrailingZeros_0f7a4_79 (Nat.le_refl _) (Nat.le_refl _) ⟨⟨_, rfl, by omega, by omega⟩, rfl⟩
          · refine g_iinc C dJ6_numberOfTrailingZeros_0f7a4_67 rfl (by decide) rfl ?_
            refine g_iload_n C dJ6_numberOfTrailingZeros_0f7a4_70 rfl ?_
            refine g_iconst C dJ6_numberOfTrailingZeros_0f7a4_71 ?_
            refine g_iushr (z := _) C dJ6_numberOfTrailingZeros_0f7a4_72 (i_ushr 2 (by omega) (by omega) (by decide)) ?_
            refine g_istore_n C dJ6_numberOfTrailingZeros_0f7a4_73 (by decide) rfl ?_
            refine g_iload_n C dJ6_numberOfTrailingZeros_0f7a4_74 rfl ?_
            refine g_iload_n C dJ6_numberOfTrailingZeros_0f7a4_75 rfl ?_
            refine g_iconst C dJ6_numberOfTrailingZeros_0f7a4_76 ?_
            refine g_iushr (z := _) C dJ6_numberOfTrailingZeros_0f7a4_77 (i_ushr 1 (by omega) (by omega) (by decide)) ?_
            refine g_iadd C dJ6_numberOfTrailingZeros_0f7a4_78 ?_
            exact g_ireturn C hQ dJ6_numberOfTrailingZeros_0f7a4_79 (Nat.le_refl _) (Nat.le_refl _) ⟨⟨_, rfl, by omega, by omega⟩, rfl⟩
      · refine g_iinc C dJ6_numberOfTrailingZeros_0f7a4_41 rfl (by decide) rfl ?_
        refine g_iload_n C dJ6_numberOfTrailingZeros_0f7a4_44 rfl ?_
        refine g_bipush C dJ6_numberOfTrailingZeros_0f7a4_45 (by decide) ?_
        refine g_iushr (z := _) C dJ6_numberOfTrailingZeros_0f7a4_47 (i_ushr 8 (by omega) (by omega) (by decide)) ?_
        refine g_istore_n C dJ6_numberOfTrailingZeros_0f7a4_48 (by decide) rfl ?_
        refine g_iload_n C dJ6_numberOfTrailingZeros_0f7a4_49 rfl ?_
        refine g_bipush C dJ6_numberOfTrailingZeros_0f7a4_50 (by decide) ?_
        refine g_icmp_le (tgt := 62) C dJ6_numberOfTrailingZeros_0f7a4_52 (by decide) (by omega) (by omega) (fun h52 => ?_) (fun h52 => ?_)
        · refine g_iload_n C dJ6_numberOfTrailingZeros_0f7a4_62 rfl ?_
          refine g_iconst C dJ6_numberOfTrailingZeros_0f7a4_63 ?_
          refine g_icmp_le (tgt := 74) C dJ6_numberOfTrailingZeros_0f7a4_64 (by decide) (by omega) (by omega) (fun h64 => ?_) (fun h64 => ?_)
          · refine g_iload_n C dJ6_numberOfTrailingZeros_0f7a4_74 rfl ?_
            refine g_iload_n C dJ6_numberOfTrailingZeros_0f7a4_75 rfl ?_
            refine g_iconst C dJ6_numberOfTrailingZeros_0f7a4_76 ?_
            refine g_iushr (z := _) C dJ6_numberOfTrailingZeros_0f7a4_77 (i_ushr 1 (by omega) (by omega) (by decide)) ?_
            refine g_iadd C dJ6_numberOfTrailingZeros_0f7a4_78 ?_
            exact g_ireturn C hQ dJ6_numberOfTrailingZeros_0f7a4_79 (Nat.le_refl _) (Nat.le_refl _) ⟨⟨_, rfl, by omega, by omega⟩, rfl⟩
          · refine g_iinc C dJ6_numberOfTrailingZeros_0f7a4_67 rfl (by decide) rfl ?_
            refine g_iload_n C dJ6_numberOfTrailingZeros_0f7a4_70 rfl ?_
            refine g_iconst C dJ6_numberOfTrailingZeros_0f7a4_71 ?_
            refine g_iushr (z := _) C dJ6_numberOfTrailingZeros_0f7a4_72 (i_ushr 2 (by omega) (by omega) (by decide)) ?_
            refine g_istore_n C dJ6_numberOfTrailingZeros_0f7a4_73 (by decide) rfl ?_
            refine g_iload_n C dJ6_numberOfTrailingZeros_0f7a4_74 rfl ?_
            refine g_iload_n C dJ6_numberOfTrailingZeros_0f7a4_75 rfl ?_
            refine g_iconst C dJ6_numberOfTrailingZeros_0f7a4_76 ?_
            refine g_iushr (z := _) C dJ6_numberOfTrailingZeros_0f7a4_77 (i_ushr 1 (by omega) (by omega) (by decide)) ?_
            refine g_iadd C dJ6_numberOfTrailingZeros_0f7a4_78 ?_
            exact g_ireturn C hQ dJ6_numberOfTrailingZeros_0f7a4_79 (Nat.le_refl _) (Nat.le_refl _) ⟨⟨_, rfl, by omega, by omega⟩, rfl⟩
        · refine g_iinc C dJ6_numberOfTrailingZeros_0f7a4_55 rfl (by decide) rfl ?_
          refine g_iload_n C dJ6_numberOfTrailingZeros_0f7a4_58 rfl ?_
          refine g_iconst C dJ6_numberOfTrailingZeros_0f7a4_59 ?_
          refine g_iushr (z := _) C dJ6_numberOfTrailingZeros_0f7a4_60 (i_ushr 4 (by omega) (by omega) (by decide)) ?_
          refine g_istore_n C dJ6_numberOfTrailingZeros_0f7a4_61 (by decide) rfl ?_
          refine g_iload_n C dJ6_numberOfTrailingZeros_0f7a4_62 rfl ?_
          refine g_iconst C dJ6_numberOfTrailingZeros_0f7a4_63 ?_
          refine g_icmp_le (tgt := 74) C dJ6_numberOfTrailingZeros_0f7a4_64 (by decide) (by omega) (by omega) (fun h64 => ?_) (fun h64 => ?_)
          · refine g_iload_n C dJ6_numberOfTrailingZeros_0f7a4_74 rfl ?_
            refine g_iload_n C dJ6_numberOfTrailingZeros_0f7a4_75 rfl ?_
            refine g_iconst C dJ6_numberOfTrailingZeros_0f7a4_76 ?_
            refine g_iushr (z := _) C dJ6_numberOfTrailingZeros_0f7a4_77 (i_ushr 1 (by omega) (by omega) (by decide)) ?_
            refine g_iadd C dJ6_numberOfTrailingZeros_0f7a4_78 ?_
            exact g_ireturn C hQ dJ6_numberOfTrailingZeros_0f7a4_79 (Nat.le_refl _) (Nat.le_refl _) ⟨⟨_, rfl, by omega, by omega⟩, rfl⟩
          · refine g_iinc C dJ6_numberOfTrailingZeros_0f7a4_67 rfl (by decide) rfl ?_
            refine g_iload_n C dJ6_numberOfTrailingZeros_0f7a4_70 rfl ?_
            refine g_iconst C dJ6_numberOfTrailingZeros_0f7a4_71 ?_
            refine g_iushr (z := _) C dJ6_numberOfTrailingZeros_0f7a4_72 (i_ushr 2 (by omega) (by omega) (by decide)) ?_
            refine g_istore_n C dJ6_numberOfTrailingZeros_0f7a4_73 (by decide) rfl ?_
            refine g_iload_n C dJ6_numberOfTrailingZeros_0f7a4_74 rfl ?_
            refine g_iload_n C dJ6_numberOfTrailingZeros_0f7a4_75 rfl ?_
            refine g_iconst C dJ6_numberOfTrailingZeros_0f7a4_76 ?_
            refine g_iushr (z := _) C dJ6_numberOfTrailingZeros_0f7a4_77 (i_ushr 1 (by omega) (by omega) (by decide)) ?_
            refine g_iadd C dJ6_numberOfTrailingZeros_0f7a4_78 ?_
            exact g_ireturn C hQ dJ6_numberOfTrailingZeros_0f7a4_79 (Nat.le_refl _) (Nat.le_refl _) ⟨⟨_, rfl, by omega, by omega⟩, rfl⟩
    · refine g_iinc C dJ6_numberOfTrailingZeros_0f7a4_26 rfl (by decide) rfl ?_
      refine g_iload_n C dJ6_numberOfTrailingZeros_0f7a4_29 rfl ?_
      refine g_bipush C dJ6_numberOfTrailingZeros_0f7a4_30 (by decide) ?_
      refine g_iushr (z := _) C dJ6_numberOfTrailingZeros_0f7a4_32 (i_ushr 16 (by omega) (by omega) (by decide)) ?_
      refine g_istore_n C dJ6_numberOfTrailingZeros_0f7a4_33 (by decide) rfl ?_
      refine g_iload_n C dJ6_numberOfTrailingZeros_0f7a4_34 rfl ?_
      refine g_sipush C dJ6_numberOfTrailingZeros_0f7a4_35 (by decide) ?_
      refine g_icmp_le (tgt := 49) C dJ6_numberOfTrailingZeros_0f7a4_38 (by decide) (by omega) (by omega) (fun h38 => ?_) (fun h38 => ?_)
      · refine g_iload_n C dJ6_numberOfTrailingZeros_0f7a4_49 rfl ?_
        refine g_bipush C dJ6_numberOfTrailingZeros_0f7a4_50 (by decide) ?_
        refine g_icmp_le (tgt := 62) C dJ6_numberOfTrailingZeros_0f7a4_52 (by decide) (by omega) (by omega) (fun h52 => ?_) (fun h52 => ?_)
        · refine g_iload_n C dJ6_numberOfTrailingZeros_0f7a4_62 rfl ?_
          refine g_iconst C dJ6_numberOfTrailingZeros_0f7a4_63 ?_
          refine g_icmp_le (tgt := 74) C dJ6_numberOfTrailingZeros_0f7a4_64 (by decide) (by omega) (by omega) (fun h64 => ?_) (fun h64 => ?_)
          · refine g_iload_n C dJ6_numberOfTrailingZeros_0f7a4_74 rfl ?_
            refine g_iload_n C dJ6_numberOfTrailingZeros_0f7a4_75 rfl ?_
            refine g_iconst C dJ6_numberOfTrailingZeros_0f7a4_76 ?_
            refine g_iushr (z := _) C dJ6_numberOfTrailingZeros_0f7a4_77 (i_ushr 1 (by omega) (by omega) (by decide)) ?_
            refine g_iadd C dJ6_numberOfTrailingZeros_0f7a4_78 ?_
            exact g_ireturn C hQ dJ6_numberOfTrailingZeros_0f7a4_79 (Nat.le_refl _) (Nat.le_refl _) ⟨⟨_, rfl, by omega, by omega⟩, rfl⟩
          · refine g_iinc C dJ6_numberOfTrailingZeros_0f7a4_67 rfl (by decide) rfl ?_
            refine g_iload_n C dJ6_numberOfTrailingZeros_0f7a4_70 rfl ?_
            refine g_iconst C dJ6_numberOfTrailingZeros_0f7a4_71 ?_
            refine g_iushr (z := _) C dJ6_numberOfTrailingZeros_0f7a4_72 (i_ushr 2 (by omega) (by omega) (by decide)) ?_
            refine g_istore_n C dJ6_numberOfTrailingZeros_0f7a4_73 (by decide) rfl ?_
            refine g_iload_n C dJ6_numberOfTrailingZeros_0f7a4_74 rfl ?_
            refine g_iload_n C dJ6_numberOfTrailingZeros_0f7a4_75 rfl ?_
            refine g_iconst C dJ6_numberOfTrailingZeros_0f7a4_76 ?_
            refine g_iushr (z := _) C dJ6_numberOfTrailingZeros_0f7a4_77 (i_ushr 1 (by omega) (by omega) (by decide)) ?_
            refine g_iadd C dJ6_numberOfTrailingZeros_0f7a4_78 ?_
            exact g_ireturn C hQ dJ6_numberOfTrailingZeros_0f7a4_79 (Nat.le_refl _) (Nat.le_refl _) ⟨⟨_, rfl, by omega, by omega⟩, rfl⟩
        · refine g_iinc C dJ6_numberOfTrailingZeros_0f7a4_55 rfl (by decide) rfl ?_
          refine g_iload_n C dJ6_numberOfTrailingZeros_0f7a4_58 rfl ?_
          refine g_iconst C dJ6_numberOfTrailingZeros_0f7a4_59 ?_
          refine g_iushr (z := _) C dJ6_numberOfTrailingZeros_0f7a4_60 (i_ushr 4 (by omega) (by omega) (by decide)) ?_
          refine g_istore_n C dJ6_numberOfTrailingZeros_0f7a4_61 (by decide) rfl ?_
          refine g_iload_n C dJ6_numberOfTrailingZeros_0f7a4_62 rfl ?_
          refine g_iconst C dJ6_numberOfTrailingZeros_0f7a4_63 ?_
          refine g_icmp_le (tgt := 74) C dJ6_numberOfTrailingZeros_0f7a4_64 (by decide) (by omega) (by omega) (fun h64 => ?_) (fun h64 => ?_)
          · refine g_iload_n C dJ6_numberOfTrailingZeros_0f7a4_74 rfl ?_
            refine g_iload_n C dJ6_numberOfTrailingZeros_0f7a4_75 rfl ?_
            refine g_iconst C dJ6_numberOfTrailingZeros_0f7a4_76 ?_
            refine g_iushr (z := _) C dJ6_numberOfTrailingZeros_0f7a4_77 (i_ushr 1 (by omega) (by omega) (by decide)) ?_
            refine g_iadd C dJ6_numberOfTrailingZeros_0f7a4_78 ?_
            exact g_ireturn C hQ dJ6_numberOfTrailingZeros_0f7a4_79 (Nat.le_refl _) (Nat.le_refl _) ⟨⟨_, rfl, by omega, by omega⟩, rfl⟩
          · refine g_iinc C dJ6_numberOfTrailingZeros_0f7a4_67 rfl (by decide) rfl ?_
            refine g_iload_n C dJ6_numberOfTrailingZeros_0f7a4_70 rfl ?_
            refine g_iconst C dJ6_numberOfTrailingZeros_0f7a4_71 ?_
            refine g_iushr (z := _) C dJ6_numberOfTrailingZeros_0f7a4_72 (i_ushr 2 (by omega) (by omega) (by decide)) ?_
            refine g_istore_n C dJ6_numberOfTrailingZeros_0f7a4_73 (by decide) rfl ?_
            refine g_iload_n C dJ6_numberOfTrailingZeros_0f7a4_74 rfl ?_
            refine g_iload_n C dJ6_numberOfTrailingZeros_0f7a4_75 rfl ?_
            refine g_iconst C dJ6_numberOfTrailingZeros_0f7a4_76 ?_
            refine g_iushr (z := _) C dJ6_numberOfTrailingZeros_0f7a4_77 (i_ushr 1 (by omega) (by omega) (by decide)) ?_
            refine g_iadd C dJ6_numberOfTrailingZeros_0f7a4_78 ?_
            exact g_ireturn C hQ dJ6_numberOfTrailingZeros_0f7a4_79 (Nat.le_refl _) (Nat.le_refl _) ⟨⟨_, rfl, by omega, by omega⟩, rfl⟩
      · refine g_iinc C dJ6_numberOfTrailingZeros_0f7a4_41 rfl (by decide) rfl ?_
        refine g_iload_n C dJ6_numberOfTrailingZeros_0f7a4_44 rfl ?_
        refine g_bipush C dJ6_numberOfTrailingZeros_0f7a4_45 (by decide) ?_
        refine g_iushr (z := _) C dJ6_numberOfTrailingZeros_0f7a4_47 (i_ushr 8 (by omega) (by omega) (by decide)) ?_
        refine g_istore_n C dJ6_numberOfTrailingZeros_0f7a4_48 (by decide) rfl ?_
        refine g_iload_n C dJ6_numberOfTrailingZeros_0f7a4_49 rfl ?_
        refine g_bipush C dJ6_numberOfTrailingZeros_0f7a4_50 (by decide) ?_
        refine g_icmp_le (tgt := 62) C dJ6_numberOfTrailingZeros_0f7a4_52 (by decide) (by omega) (by omega) (fun h52 => ?_) (fun h52 => ?_)
        · refine g_iload_n C dJ6_numberOfTrailingZeros_0f7a4_62 rfl ?_
          refine g_iconst C dJ6_numberOfTrailingZeros_0f7a4_63 ?_
          refine g_icmp_le (tgt := 74) C dJ6_numberOfTrailingZeros_0f7a4_64 (by decide) (by omega) (by omega) (fun h64 => ?_) (fun h64 => ?_)
          · refine g_iload_n C dJ6_numberOfTrailingZeros_0f7a4_74 rfl ?_
            refine g_iload_n C dJ6_numberOfTrailingZeros_0f7a4_75 rfl ?_
            refine g_iconst C dJ6_numberOfTrailingZeros_0f7a4_76 ?_
            refine g_iushr (z := _) C dJ6_numberOfTrailingZeros_0f7a4_77 (i_ushr 1 (by omega) (by omega) (by decide)) ?_
            refine g_iadd C dJ6_numberOfTrailingZeros_0f7a4_78 ?_
            exact g_ireturn C hQ dJ6_numberOfTrailingZeros_0f7a4_79 (Nat.le_refl _) (Nat.le_refl _) ⟨⟨_, rfl, by omega, by omega⟩, rfl⟩
          · refine g_iinc C dJ6_numberOfTrailingZeros_0f7a4_67 rfl (by decide) rfl ?_
            refine g_iload_n C dJ6_numberOfTrailingZeros_0f7a4_70 rfl ?_
            refine g_iconst C dJ6_numberOfTrailingZeros_0f7a4_71 ?_
            refine g_iushr (z := _) C dJ6_numberOfTrailingZeros_0f7a4_72 (i_ushr 2 (by omega) (by omega) (by decide)) ?_
            refine g_istore_n C dJ6_numberOfTrailingZeros_0f7a4_73 (by decide) rfl ?_
            refine g_iload_n C dJ6_numberOfTrailingZeros_0f7a4_74 rfl ?_
            refine g_iload_n C dJ6_numberOfTrailingZeros_0f7a4_75 rfl ?_
            refine g_iconst C dJ6_numberOfTrailingZeros_0f7a4_76 ?_
            refine g_iushr (z := _) C dJ6_numberOfTrailingZeros_0f7a4_77 (i_ushr 1 (by omega) (by omega) (by decide)) ?_
            refine g_iadd C dJ6_numberOfTrailingZeros_0f7a4_78 ?_
            exact g_ireturn C hQ dJ6_numberOfTrailingZeros_0f7a4_79 (Nat.le_refl _) (Nat.le_refl _) ⟨⟨_, rfl, by omega, by omega⟩, rfl⟩
        · refine g_iinc C dJ6_numberOfTrailingZeros_0f7a4_55 rfl (by decide) rfl ?_
          refine g_iload_n C dJ6_numberOfTrailingZeros_0f7a4_58 rfl ?_
          refine g_iconst C dJ6_numberOfTrailingZeros_0f7a4_59 ?_
          refine g_iushr (z := _) C dJ6_numberOfTrailingZeros_0f7a4_60 (i_ushr 4 (by omega) (by omega) (by decide)) ?_
          refine g_istore_n C dJ6_numberOfTrailingZeros_0f7a4_61 (by decide) rfl ?_
          refine g_iload_n C dJ6_numberOfTrailingZeros_0f7a4_62 rfl ?_
          refine g_iconst C dJ6_numberOfTrailingZeros_0f7a4_63 ?_
          refine g_icmp_le (tgt := 74) C dJ6_numberOfTrailingZeros_0f7a4_64 (by decide) (by omega) (by omega) (fun h64 => ?_) (fun h64 => ?_)
          · refine g_iload_n C dJ6_numberOfTrailingZeros_0f7a4_74 rfl ?_
            refine g_iload_n C dJ6_numberOfTrailingZeros_0f7a4_75 rfl ?_
            refine g_iconst C dJ6_numberOfTrailingZeros_0f7a4_76 ?_
            refine g_iushr (z := _) C dJ6_numberOfTrailingZeros_0f7a4_77 (i_ushr 1 (by omega) (by omega) (by decide)) ?_
            refine g_iadd C dJ6_numberOfTrailingZeros_0f7a4_78 ?_
            exact g_ireturn C hQ dJ6_numberOfTrailingZeros_0f7a4_79 (Nat.le_refl _) (Nat.le_refl _) ⟨⟨_, rfl, by omega, by omega⟩, rfl⟩
          · refine g_iinc C dJ6_numberOfTrailingZeros_0f7a4_67 rfl (by decide) rfl ?_
            refine g_iload_n C dJ6_numberOfTrailingZeros_0f7a4_70 rfl ?_
            refine g_iconst C dJ6_numberOfTrailingZeros_0f7a4_71 ?_
            refine g_iushr (z := _) C dJ6_numberOfTrailingZeros_0f7a4_72 (i_ushr 2 (by omega) (by omega) (by decide)) ?_
            refine g_istore_n C dJ6_numberOfTrailingZeros_0f7a4_73 (by decide) rfl ?_
            refine g_iload_n C dJ6_numberOfTrailingZeros_0f7a4_74 rfl ?_
            refine g_iload_n C dJ6_numberOfTrailingZeros_0f7a4_75 rfl ?_
            refine g_iconst C dJ6_numberOfTrailingZeros_0f7a4_76 ?_
            refine g_iushr (z := _) C dJ6_numberOfTrailingZeros_0f7a4_77 (i_ushr 1 (by omega) (by omega) (by decide)) ?_
            refine g_iadd C dJ6_numberOfTrailingZeros_0f7a4_78 ?_
            exact g_ireturn C hQ dJ6_numberOfTrailingZeros_0f7a4_79 (Nat.le_refl _) (Nat.le_refl _) ⟨⟨_, rfl, by omega, by omega⟩, rfl⟩
  · refine g_iload_n C dJ6_numberOfTrailingZeros_0f7a4_12 rfl ?_
    refine g_bipush C dJ6_numberOfTrailingZeros_0f7a4_13 (by decide) ?_
    refine g_iand (z := z15) C dJ6_numberOfTrailingZeros_0f7a4_15 hz15 ?_
    exact g_ireturn C hQ dJ6_numberOfTrailingZeros_0f7a4_16 (Nat.le_refl _) (Nat.le_refl _) ⟨⟨_, rfl, by omega, by omega⟩, rfl⟩
set_option maxHeartbeats 4000000 in
set_option maxRecDepth 100000 in
theorem s_J6_bitCount_0f7a4 (l : Launch) {E : GE} {w : Wd} {x : Int} (hx : 0 ≤ x ∧ x < 2147483648) : Sp E l yJ6_bitCount_0f7a4 cJ6_bitCount_0f7a4 1 (some .int) 0 (0) (0) [iI x] w (fun r' w' => (∃ d : Int, r' = some (iI d) ∧ -2147483648 ≤ d ∧ d < 2147483648) ∧ w' = w) := by
  refine sp_intro [some (iI x)] rfl (Nat.le_of_ble_eq_true rfl) pn_J6 ?_
  intro X C hRm hl hnm hQ
  obtain ⟨hRf, hRl, hRc, hRs⟩ := hRm
  refine g_wf (fun hwf => ?_)
  obtain ⟨z3, hz3, hz3a, hz3b⟩ := gen32 (((Int32.ofInt (x)).toUInt32 >>> ((Int32.ofInt 1).toUInt32 &&& Int32.toUInt32 31)).toInt32)
  obtain ⟨z7, hz7, hz7a, hz7b⟩ := gen32 (Int32.ofInt (z3) &&& Int32.ofInt (1431655765))
  obtain ⟨z14, hz14, hz14a, hz14b⟩ := gen32 (Int32.ofInt (x - z7) &&& Int32.ofInt (858993459))
  obtain ⟨z17, hz17, hz17a, hz17b⟩ := gen32 (((Int32.ofInt (x - z7)).toUInt32 >>> ((Int32.ofInt 2).toUInt32 &&& Int32.toUInt32 31)).toInt32)
  obtain ⟨z21, hz21, hz21a, hz21b⟩ := gen32 (Int32.ofInt (z17) &&& Int32.ofInt (858993459))
  obtain ⟨z27, hz27, hz27a, hz27b⟩ := gen32 (((Int32.ofInt (z14 + z21)).toUInt32 >>> ((Int32.ofInt 4).toUInt32 &&& Int32.toUInt32 31)).toInt32)
  obtain ⟨z32, hz32, hz32a, hz32b⟩ := gen32 (Int32.ofInt (z14 + z21 + z27) &&& Int32.ofInt (252645135))
  obtain ⟨z38, hz38, hz38a, hz38b⟩ := gen32 (((Int32.ofInt (z32)).toUInt32 >>> ((Int32.ofInt 8).toUInt32 &&& Int32.toUInt32 31)).toInt32)
  obtain ⟨z45, hz45, hz45a, hz45b⟩ := gen32 (((Int32.ofInt (z32 + z38)).toUInt32 >>> ((Int32.ofInt 16).toUInt32 &&& Int32.toUInt32 31)).toInt32)
  obtain ⟨z51, hz51, hz51a, hz51b⟩ := gen32 (Int32.ofInt (z32 + z38 + z45) &&& Int32.ofInt (63))
  refine g_iload_n C dJ6_bitCount_0f7a4_0 rfl ?_
  refine g_iload_n C dJ6_bitCount_0f7a4_1 rfl ?_
  refine g_iconst C dJ6_bitCount_0f7a4_2 ?_
  refine g_iushr (z := z3) C dJ6_bitCount_0f7a4_3 hz3 ?_
  refine g_ldcw (z := 1431655765) C ko_RJ6_265 (by decide) dJ6_bitCount_0f7a4_4 ?_
  refine g_iand (z := z7) C dJ6_bitCount_0f7a4_7 hz7 ?_
  refine g_isub C dJ6_bitCount_0f7a4_8 ?_
  refine g_istore_n C dJ6_bitCount_0f7a4_9 (by decide) rfl ?_
  refine g_iload_n C dJ6_bitCount_0f7a4_10 rfl ?_
  refine g_ldcw (z := 858993459) C ko_RJ6_266 (by decide) dJ6_bitCount_0f7a4_11 ?_
  refine g_iand (z := z14) C dJ6_bitCount_0f7a4_14 hz14 ?_
  refine g_iload_n C dJ6_bitCount_0f7a4_15 rfl ?_
  refine g_iconst C dJ6_bitCount_0f7a4_16 ?_
  refine g_iushr (z := z17) C dJ6_bitCount_0f7a4_17 hz17 ?_
  refine g_ldcw (z := 858993459) C ko_RJ6_266 (by decide) dJ6_bitCount_0f7a4_18 ?_
  refine g_iand (z := z21) C dJ6_bitCount_0f7a4_21 hz21 ?_
  refine g_iadd C dJ6_bitCount_0f7a4_22 ?_
  refine g_istore_n C dJ6_bitCount_0f7a4_23 (by decide) rfl ?_
  refine g_iload_n C dJ6_bitCount_0f7a4_24 rfl ?_
  refine g_iload_n C dJ6_bitCount_0f7a4_25 rfl ?_
  refine g_iconst C dJ6_bitCount_0f7a4_26 ?_
  refine g_iushr (z := z27) C dJ6_bitCount_0f7a4_27 hz27 ?_
  refine g_iadd C dJ6_bitCount_0f7a4_28 ?_
  refine g_ldcw (z := 252645135) C ko_RJ6_267 (by decide) dJ6_bitCount_0f7a4_29 ?_
  refine g_iand (z := z32) C dJ6_bitCount_0f7a4_32 hz32 ?_
  refine g_istore_n C dJ6_bitCount_0f7a4_33 (by decide) rfl ?_
  refine g_iload_n C dJ6_bitCount_0f7a4_34 rfl ?_
  refine g_iload_n C dJ6_bitCount_0f7a4_35 rfl ?_
  refine g_bipush C dJ6_bitCount_0f7a4_36 (by decide) ?_
  refine g_iushr (z := z38) C dJ6_bitCount_0f7a4_38 hz38 ?_
  refine g_iadd C dJ6_bitCount_0f7a4_39 ?_
  refine g_istore_n C dJ6_bitCount_0f7a4_40 (by decide) rfl ?_
  refine g_iload_n C dJ6_bitCount_0f7a4_41 rfl ?_
  refine g_iload_n C dJ6_bitCount_0f7a4_42 rfl ?_
  refine g_bipush C dJ6_bitCount_0f7a4_43 (by decide) ?_
  refine g_iushr (z := z45) C dJ6_bitCount_0f7a4_45 hz45 ?_
  refine g_iadd C dJ6_bitCount_0f7a4_46 ?_
  refine g_istore_n C dJ6_bitCount_0f7a4_47 (by decide) rfl ?_
  refine g_iload_n C dJ6_bitCount_0f7a4_48 rfl ?_
  refine g_bipush C dJ6_bitCount_0f7a4_49 (by decide) ?_
  refine g_iand (z := z51) C dJ6_bitCount_0f7a4_51 hz51 ?_
  exact g_ireturn C hQ dJ6_bitCount_0f7a4_52 (Nat.le_refl _) (Nat.le_refl _) ⟨⟨_, rfl, by omega, by omega⟩, rfl⟩
set_option maxHeartbeats 4000000 in
set_option maxRecDepth 100000 in
theorem s_X5_bits (l : Launch) {E : GE} {w : Wd} {a r : Nat} (hW : WS w a r) : Sp E l yX5_bits cX5_bits 2 (some .int) 1 (0) (0) [.ref a] w (fun r' w' => (∃ d : Int, r' = some (iI d) ∧ 0 ≤ d ∧ d ≤ 508) ∧ w' = w) := by
  refine sp_intro [some (.ref a), none] rfl (Nat.le_of_ble_eq_true rfl) pn_X5 ?_
  intro X C hRm hl hnm hQ
  obtain ⟨hRf, hRl, hRc, hRs⟩ := hRm
  refine g_wf (fun hwf => ?_)
  have hB28 : B28 = 268435456 := rfl
  obtain ⟨f, u, bl, hO, hR, hf, hu18, hbl⟩ := id hW
  have hne := oI_ne hO hR
  refine g_aload_n C dX5_bits_0 rfl ?_
  refine g_get (ci := 7) C rfl inTX5 1 (by decide) fl_RX5_17 rfl hO rfl dX5_bits_1 ?_
  refine g_iconst C dX5_bits_4 ?_
  refine g_icmp_lt (tgt := 17) C dX5_bits_5 (by decide) (by omega) (by omega) (fun h5 => ?_) (fun h5 => ?_)
  · refine g_iconst C dX5_bits_17 ?_
    exact g_ireturn C hQ dX5_bits_18 (Nat.le_refl _) (Nat.le_refl _) ⟨⟨0, rfl, by omega, by omega⟩, rfl⟩
  · refine g_aload_n C dX5_bits_8 rfl ?_
    refine g_get (ci := 7) C rfl inTX5 1 (by decide) fl_RX5_17 rfl hO rfl dX5_bits_9 ?_
    refine g_bipush C dX5_bits_12 (by decide) ?_
    refine g_icmp_le (tgt := 19) C dX5_bits_14 (by decide) (by omega) (by omega) (fun h14 => ?_) (fun h14 => ?_)
    · refine g_bipush C dX5_bits_19 (by decide) ?_
      refine g_aload_n C dX5_bits_21 rfl ?_
      refine g_get (ci := 7) C rfl inTX5 0 (by decide) fl_RX5_9 rfl hO rfl dX5_bits_22 ?_
      refine g_aload_n C dX5_bits_25 rfl ?_
      refine g_get (ci := 7) C rfl inTX5 1 (by decide) fl_RX5_17 rfl hO rfl dX5_bits_26 ?_
      refine g_iconst C dX5_bits_29 ?_
      refine g_isub C dX5_bits_30 ?_
      refine g_iaload C hR (by omega) dX5_bits_31 ?_
      have hfu : 0 ≤ f ((u : Int) - 1).toNat ∧ f ((u : Int) - 1).toNat < 2147483648 := by have := hf ((u : Int) - 1).toNat (by omega); omega
      refine g_callS C (s_J6_numberOfLeadingZeros_0f7a4 _ hfu) ml_RX5_70 sm_yJ6_numberOfLeadingZeros_0f7a4 in_RJ6 co_yJ6_numberOfLeadingZeros_0f7a4 hd_J6_numberOfLeadingZeros_0f7a4 rfl ⟨by omega, by omega⟩ rfl (Nat.le_of_ble_eq_true rfl) ⟨by omega, by omega⟩ dX5_bits_32 (fun v32 w32 hp32 => ?_)
      obtain ⟨⟨d32, rfl, hd32⟩, hw32⟩ := hp32
      subst w32
      refine g_isub C dX5_bits_35 ?_
      refine g_istore_n C dX5_bits_36 (by decide) rfl ?_
      refine g_aload_n C dX5_bits_37 rfl ?_
      refine g_get (ci := 7) C rfl inTX5 1 (by decide) fl_RX5_17 rfl hO rfl dX5_bits_38 ?_
      refine g_iconst C dX5_bits_41 ?_
      refine g_isub C dX5_bits_42 ?_
      refine g_bipush C dX5_bits_43 (by decide) ?_
      refine g_imul C dX5_bits_45 ?_
      refine g_iload_n C dX5_bits_46 rfl ?_
      refine g_iadd C dX5_bits_47 ?_
      exact g_ireturn C hQ dX5_bits_48 (Nat.le_refl _) (Nat.le_refl _) ⟨⟨_, rfl, by omega, by omega⟩, rfl⟩
    · refine g_iconst C dX5_bits_17 ?_
      exact g_ireturn C hQ dX5_bits_18 (Nat.le_refl _) (Nat.le_refl _) ⟨⟨0, rfl, by omega, by omega⟩, rfl⟩
theorem iI_r (c : Int) : ∃ d : Int, some (iI c) = some (iI d) ∧ -2147483648 ≤ d ∧ d < 2147483648 := by
  obtain ⟨z, hz, h1, h2⟩ := gen32 (Int32.ofInt c)
  exact ⟨z, by unfold iI; rw [hz], h1, h2⟩
set_option maxHeartbeats 4000000 in
set_option maxRecDepth 100000 in
theorem s_X5_ones (l : Launch) {E : GE} {w : Wd} {a r : Nat} (hW : WS w a r) : Sp E l yX5_ones cX5_ones 3 (some .int) 1 (0) (0) [.ref a] w (fun r' w' => (∃ d : Int, r' = some (iI d) ∧ -2147483648 ≤ d ∧ d < 2147483648) ∧ w' = w) := by
  refine sp_intro [some (.ref a), none, none] rfl (Nat.le_of_ble_eq_true rfl) pn_X5 ?_
  intro X C hRm hl hnm hQ
  obtain ⟨hRf, hRl, hRc, hRs⟩ := hRm
  refine g_wf (fun hwf => ?_)
  have hB28 : B28 = 268435456 := rfl
  obtain ⟨f, u, bl, hO, hR, hf, hu18, hbl⟩ := id hW
  have hne := oI_ne hO hR
  refine g_iconst C dX5_ones_0 ?_
  refine g_istore_n C dX5_ones_1 (by decide) rfl ?_
  refine g_iconst C dX5_ones_2 ?_
  refine g_istore_n C dX5_ones_3 (by decide) rfl ?_
  refine g_loop (σ := Nat × Int) (fun s => s.1 ≤ 18) (fun s => G E X 3 4 [some (.ref a), some (iI s.2), some (iI (s.1 : Int))] [] w 0 0) (fun s => 18 - s.1) ?_ (0, 0) (by dsimp only; omega)
  rintro ⟨j, c⟩ hj ih
  dsimp only at hj ⊢
  refine g_iload_n C dX5_ones_4 rfl ?_
  refine g_bipush C dX5_ones_5 (by decide) ?_
  refine g_icmp_ge (tgt := 28) C dX5_ones_7 (by decide) (by omega) (by omega) (fun h7 => ?_) (fun h7 => ?_)
  · refine g_iload_n C dX5_ones_28 rfl ?_
    exact g_ireturn C hQ dX5_ones_29 (Nat.le_refl _) (Nat.le_refl _) ⟨iI_r _, rfl⟩
  · have hfj := hf j (by omega)
    refine g_iload_n C dX5_ones_10 rfl ?_
    refine g_aload_n C dX5_ones_11 rfl ?_
    refine g_get (ci := 7) C rfl inTX5 0 (by decide) fl_RX5_9 rfl hO rfl dX5_ones_12 ?_
    refine g_iload_n C dX5_ones_15 rfl ?_
    refine g_ialoadN (j) C hR (by omega) (by omega) dX5_ones_16 ?_
    refine g_callS C (s_J6_bitCount_0f7a4 _ (x := f j) (by omega)) ml_RX5_76 sm_yJ6_bitCount_0f7a4 in_RJ6 co_yJ6_bitCount_0f7a4 hd_J6_bitCount_0f7a4 rfl ⟨by omega, by omega⟩ rfl (Nat.le_of_ble_eq_true rfl) ⟨by omega, by omega⟩ dX5_ones_17 (fun v17 w17 hp17 => ?_)
    obtain ⟨⟨d17, rfl, hd17⟩, hw17⟩ := hp17
    subst w17
    refine g_iadd C dX5_ones_20 ?_
    refine g_istore_n C dX5_ones_21 (by decide) rfl ?_
    refine g_iinc C dX5_ones_22 rfl (by decide) rfl ?_
    refine g_goto (tgt := 4) C dX5_ones_25 (by decide) ?_
    exact ih (j + 1, c + d17) (by dsimp only; omega) (by dsimp only; omega)
set_option maxHeartbeats 4000000 in
set_option maxRecDepth 100000 in
theorem s_X5_zerosBehind (l : Launch) {E : GE} {w : Wd} {a r : Nat} (hW : WS w a r) : Sp E l yX5_zerosBehind cX5_zerosBehind 2 (some .int) 1 (0) (0) [.ref a] w (fun r' w' => (∃ d : Int, r' = some (iI d) ∧ -2147483648 ≤ d ∧ d < 2147483648) ∧ w' = w) := by
  refine sp_intro [some (.ref a), none] rfl (Nat.le_of_ble_eq_true rfl) pn_X5 ?_
  intro X C hRm hl hnm hQ
  obtain ⟨hRf, hRl, hRc, hRs⟩ := hRm
  refine g_wf (fun hwf => ?_)
  have hB28 : B28 = 268435456 := rfl
  obtain ⟨f, u, bl, hO, hR, hf, hu18, hbl⟩ := id hW
  have hne := oI_ne hO hR
  refine g_iconst C dX5_zerosBehind_0 ?_
  refine g_istore_n C dX5_zerosBehind_1 (by decide) rfl ?_
  refine g_loop (σ := Nat) (fun s => s ≤ 18) (fun s => G E X 2 2 [some (.ref a), some (iI (s : Int))] [] w 0 0) (fun s => 18 - s) ?_ 0 (by omega)
  rintro j hj ih
  refine g_iload_n C dX5_zerosBehind_2 rfl ?_
  refine g_bipush C dX5_zerosBehind_3 (by decide) ?_
  refine g_icmp_ge (tgt := 38) C dX5_zerosBehind_5 (by decide) (by omega) (by omega) (fun h5 => ?_) (fun h5 => ?_)
  · refine g_iconst C dX5_zerosBehind_38 ?_
    exact g_ireturn C hQ dX5_zerosBehind_39 (Nat.le_refl _) (Nat.le_refl _) ⟨iI_r _, rfl⟩
  · have hfj := hf j (by omega)
    refine g_aload_n C dX5_zerosBehind_8 rfl ?_
    refine g_get (ci := 7) C rfl inTX5 0 (by decide) fl_RX5_9 rfl hO rfl dX5_zerosBehind_9 ?_
    refine g_iload_n C dX5_zerosBehind_12 rfl ?_
    refine g_ialoadN (j) C hR (by omega) (by omega) dX5_zerosBehind_13 ?_
    refine g_if_eq (tgt := 32) C dX5_zerosBehind_14 (by decide) (by omega) (fun h14 => ?_) (fun h14 => ?_)
    · refine g_iinc C dX5_zerosBehind_32 rfl (by decide) rfl ?_
      refine g_goto (tgt := 2) C dX5_zerosBehind_35 (by decide) ?_
      exact ih (j + 1) (by omega) (by omega)
    · refine g_iload_n C dX5_zerosBehind_17 rfl ?_
      refine g_bipush C dX5_zerosBehind_18 (by decide) ?_
      refine g_imul C dX5_zerosBehind_20 ?_
      refine g_aload_n C dX5_zerosBehind_21 rfl ?_
      refine g_get (ci := 7) C rfl inTX5 0 (by decide) fl_RX5_9 rfl hO rfl dX5_zerosBehind_22 ?_
      refine g_iload_n C dX5_zerosBehind_25 rfl ?_
      refine g_ialoadN (j) C hR (by omega) (by omega) dX5_zerosBehind_26 ?_
      refine g_callS C (s_J6_numberOfTrailingZeros_0f7a4 _ (x := f j) (by omega)) ml_RX5_79 sm_yJ6_numberOfTrailingZeros_0f7a4 in_RJ6 co_yJ6_numberOfTrailingZeros_0f7a4 hd_J6_numberOfTrailingZeros_0f7a4 rfl ⟨by omega, by omega⟩ rfl (Nat.le_of_ble_eq_true rfl) ⟨by omega, by omega⟩ dX5_zerosBehind_27 (fun v27 w27 hp27 => ?_)
      obtain ⟨⟨d27, rfl, hd27⟩, hw27⟩ := hp27
      subst w27
      refine g_iadd C dX5_zerosBehind_30 ?_
      exact g_ireturn C hQ dX5_zerosBehind_31 (Nat.le_refl _) (Nat.le_refl _) ⟨iI_r _, rfl⟩
set_option maxHeartbeats 4000000 in
set_option maxRecDepth 100000 in
theorem s_X5_hasBit (l : Launch) {E : GE} {w : Wd} {a r : Nat} (hW : WS w a r) {p : Int} (hp : 0 ≤ p ∧ p ≤ 1000) : Sp E l yX5_hasBit cX5_hasBit 3 (some .boolean) 0 (0) (0) [.ref a, iI p] w (fun r' w' => (∃ d : Int, r' = some (iI d) ∧ (d = 0 ∨ d = 1)) ∧ w' = w) := by
  refine sp_intro [some (.ref a), some (iI p), none] rfl (Nat.le_of_ble_eq_true rfl) pn_X5 ?_
  intro X C hRm hl hnm hQ
  obtain ⟨hRf, hRl, hRc, hRs⟩ := hRm
  refine g_wf (fun hwf => ?_)
  have hB28 : B28 = 268435456 := rfl
  obtain ⟨f, u, bl, hO, hR, hf, hu18, hbl⟩ := id hW
  have hne := oI_ne hO hR
  refine g_iload_n C dX5_hasBit_0 rfl ?_
  refine g_if_ge (tgt := 9) C dX5_hasBit_1 (by decide) (by omega) (fun h1 => ?_) (fun h1 => ?_)
  · refine g_iload_n C dX5_hasBit_9 rfl ?_
    refine g_bipush C dX5_hasBit_10 (by decide) ?_
    refine g_idivN C dX5_hasBit_12 (by omega) (by omega) ?_
    refine g_istore_n C dX5_hasBit_13 (by decide) rfl ?_
    refine g_iload_n C dX5_hasBit_14 rfl ?_
    refine g_bipush C dX5_hasBit_15 (by decide) ?_
    refine g_icmp_ge (tgt := 41) C dX5_hasBit_17 (by decide) (by omega) (by omega) (fun h17 => ?_) (fun h17 => ?_)
    · refine g_iconst C dX5_hasBit_41 ?_
      exact g_zreturn C hQ dX5_hasBit_42 (nar01 (by omega)) (Nat.le_refl _) (Nat.le_refl _) ⟨⟨_, rfl, by omega⟩, rfl⟩
    · have hfj := hf (p / 28).toNat (by omega)
      obtain ⟨z30, hz30, hz30a, hz30b⟩ := gen32 (((Int32.ofInt (f (p / 28).toNat)).toUInt32 >>> ((Int32.ofInt (p % 28)).toUInt32 &&& Int32.toUInt32 31)).toInt32)
      obtain ⟨z32, hz32, hz32a, hz32b⟩ := gen32 (Int32.ofInt z30 &&& Int32.ofInt 1)
      refine g_aload_n C dX5_hasBit_20 rfl ?_
      refine g_get (ci := 7) C rfl inTX5 0 (by decide) fl_RX5_9 rfl hO rfl dX5_hasBit_21 ?_
      refine g_iload_n C dX5_hasBit_24 rfl ?_
      refine g_iaload C hR (by omega) dX5_hasBit_25 ?_
      refine g_iload_n C dX5_hasBit_26 rfl ?_
      refine g_bipush C dX5_hasBit_27 (by decide) ?_
      refine g_iremN C dX5_hasBit_29 (by omega) (by omega) ?_
      refine g_iushr (z := z30) C dX5_hasBit_30 hz30 ?_
      refine g_iconst C dX5_hasBit_31 ?_
      refine g_iand (z := z32) C dX5_hasBit_32 hz32 ?_
      refine g_iconst C dX5_hasBit_33 ?_
      refine g_icmp_ne (tgt := 41) C dX5_hasBit_34 (by decide) (by omega) (by omega) (fun h34 => ?_) (fun h34 => ?_)
      · refine g_iconst C dX5_hasBit_41 ?_
        exact g_zreturn C hQ dX5_hasBit_42 (nar01 (by omega)) (Nat.le_refl _) (Nat.le_refl _) ⟨⟨_, rfl, by omega⟩, rfl⟩
      · refine g_iconst C dX5_hasBit_37 ?_
        refine g_goto (tgt := 42) C dX5_hasBit_38 (by decide) ?_
        exact g_zreturn C hQ dX5_hasBit_42 (nar01 (by omega)) (Nat.le_refl _) (Nat.le_refl _) ⟨⟨_, rfl, by omega⟩, rfl⟩
  · omega
set_option maxHeartbeats 4000000 in
set_option maxRecDepth 100000 in
theorem s_X5_lowBits (l : Launch) {E : GE} {w : Wd} {a r : Nat} (hW : WS w a r) : Sp E l yX5_lowBits cX5_lowBits 3 (some .long) 0 (0) (0) [.ref a] w (fun r' w' => (∃ d : Int, r' = some (jJ d)) ∧ w' = w) := by
  refine sp_intro [some (.ref a), none, none] rfl (Nat.le_of_ble_eq_true rfl) pn_X5 ?_
  intro X C hRm hl hnm hQ
  obtain ⟨hRf, hRl, hRc, hRs⟩ := hRm
  refine g_wf (fun hwf => ?_)
  have hB28 : B28 = 268435456 := rfl
  obtain ⟨f, u, bl, hO, hR, hf, hu18, hbl⟩ := id hW
  have hne := oI_ne hO hR
  have hf0 := hf 0 (by omega)
  have hf1 := hf 1 (by omega)
  have hf2 := hf 2 (by omega)
  obtain ⟨z16, hz16, -, -⟩ := gen64 (Int64.ofInt (f 1) <<< ((Int32.ofInt 28).toInt64 &&& 63))
  obtain ⟨z17, hz17, -, -⟩ := gen64 (Int64.ofInt (f 0) ||| Int64.ofInt z16)
  obtain ⟨z27, hz27, -, -⟩ := gen64 (Int64.ofInt (f 2) <<< ((Int32.ofInt 56).toInt64 &&& 63))
  obtain ⟨z28, hz28, -, -⟩ := gen64 (Int64.ofInt z17 ||| Int64.ofInt z27)
  refine g_aload_n C dX5_lowBits_0 rfl ?_
  refine g_get (ci := 7) C rfl inTX5 0 (by decide) fl_RX5_9 rfl hO rfl dX5_lowBits_1 ?_
  refine g_iconst C dX5_lowBits_4 ?_
  refine g_ialoadN (0) C hR (by omega) (by omega) dX5_lowBits_5 ?_
  refine g_i2l C dX5_lowBits_6 (by omega) ?_
  refine g_aload_n C dX5_lowBits_7 rfl ?_
  refine g_get (ci := 7) C rfl inTX5 0 (by decide) fl_RX5_9 rfl hO rfl dX5_lowBits_8 ?_
  refine g_iconst C dX5_lowBits_11 ?_
  refine g_ialoadN (1) C hR (by omega) (by omega) dX5_lowBits_12 ?_
  refine g_i2l C dX5_lowBits_13 (by omega) ?_
  refine g_bipush C dX5_lowBits_14 (by decide) ?_
  refine g_lshl (z := z16) C dX5_lowBits_16 hz16 ?_
  refine g_lor (z := z17) C dX5_lowBits_17 hz17 ?_
  refine g_aload_n C dX5_lowBits_18 rfl ?_
  refine g_get (ci := 7) C rfl inTX5 0 (by decide) fl_RX5_9 rfl hO rfl dX5_lowBits_19 ?_
  refine g_iconst C dX5_lowBits_22 ?_
  refine g_ialoadN (2) C hR (by omega) (by omega) dX5_lowBits_23 ?_
  refine g_i2l C dX5_lowBits_24 (by omega) ?_
  refine g_bipush C dX5_lowBits_25 (by decide) ?_
  refine g_lshl (z := z27) C dX5_lowBits_27 hz27 ?_
  refine g_lor (z := z28) C dX5_lowBits_28 hz28 ?_
  refine g_lstore_n C dX5_lowBits_29 (by decide) rfl ?_
  refine g_aload_n C dX5_lowBits_30 rfl ?_
  refine g_get (ci := 7) C rfl inTX5 2 (by decide) fl_RX5_13 rfl hO rfl dX5_lowBits_31 ?_
  refine g_if_eq (tgt := 42) C dX5_lowBits_34 (by decide) (by omega) (fun h34 => ?_) (fun h34 => ?_)
  · refine g_lload_n C dX5_lowBits_42 rfl ?_
    exact g_lreturn C hQ dX5_lowBits_43 (Nat.le_refl _) (Nat.le_refl _) ⟨⟨_, rfl⟩, rfl⟩
  · refine g_lload_n C dX5_lowBits_37 rfl ?_
    refine g_lneg C dX5_lowBits_38 ?_
    refine g_goto (tgt := 43) C dX5_lowBits_39 (by decide) ?_
    exact g_lreturn C hQ dX5_lowBits_43 (Nat.le_refl _) (Nat.le_refl _) ⟨⟨_, rfl⟩, rfl⟩
theorem j_shl28 (x : Int) : Int64.ofInt x <<< ((Int32.ofInt 28).toInt64 &&& 63) = Int64.ofInt (x * 268435456) := by
  apply Int64.toBitVec_inj.mp
  rw [Int64.toBitVec_shiftLeft]
  have hD : (((Int32.ofInt 28).toInt64 &&& 63).toBitVec.smod 64).toNat = 28 := by decide
  show BitVec.ofInt 64 x <<< (((Int32.ofInt 28).toInt64 &&& 63).toBitVec.smod 64) = BitVec.ofInt 64 (x * 268435456)
  rw [BitVec.shiftLeft_eq', hD, BitVec.shiftLeft_eq_mul_twoPow, BitVec.ofInt_mul]
  congr 1
theorem mxn {x : Int} {N : Nat} (h : x ≤ N) : ∃ m : Nat, m ≤ N ∧ (if (0 : Int) < x then x else 0) = (m : Int) := by
  refine ⟨x.toNat, by omega, ?_⟩
  split <;> omega
theorem dv28 (m : Nat) : ((m : Int) / 28 = ((m / 28 : Nat) : Int)) ∧ ((m : Int) % 28 = ((m % 28 : Nat) : Int)) := ⟨by simp, by simp⟩
theorem div28 {c x y : Int} (hc : 0 ≤ c ∧ c < y) (hx : 0 ≤ x ∧ x < B28) : 0 ≤ (c * 268435456 + x) / y ∧ (c * 268435456 + x) / y < B28 ∧ 0 ≤ (c * 268435456 + x) % y ∧ (c * 268435456 + x) % y < y := by
  have hB28 : B28 = 268435456 := rfl
  refine ⟨Int.ediv_nonneg (by omega) (by omega), Int.ediv_lt_of_lt_mul (by omega) ?_, Int.emod_nonneg _ (by omega), Int.emod_lt_of_pos _ (by omega)⟩
  rw [hB28]
  omega
set_option maxHeartbeats 4000000 in
set_option maxRecDepth 100000 in
theorem s_X5_multiplySmall (l : Launch) {E : GE} {w : Wd} {a r : Nat} (hW : WS w a r) {by_ mo : Int} (hby : 0 ≤ by_ ∧ by_ ≤ 1000) (hmo : -1000 ≤ mo ∧ mo ≤ 1000) : Sp E l yX5_multiplySmall cX5_multiplySmall 7 none 1 (0) (0) [.ref a, iI by_, iI mo] w (fun r' w' => r' = none ∧ WS w' a r ∧ FrW w w' a r) := by
  refine sp_intro [some (.ref a), some (iI by_), some (iI mo), none, none, none, none] rfl (Nat.le_of_ble_eq_true rfl) pn_X5 ?_
  intro X C hRm hl hnm hQ
  obtain ⟨hRf, hRl, hRc, hRs⟩ := hRm
  refine g_wf (fun hwf => ?_)
  have hB28 : B28 = 268435456 := rfl
  obtain ⟨f, u, bl, hO, hR, hf, hu18, hbl⟩ := id hW
  have hne := oI_ne hO hR
  obtain ⟨e, he1, he2, he3⟩ := mn18 (u + 1)
  refine g_bipush C dX5_multiplySmall_0 (by decide) ?_
  refine g_aload_n C dX5_multiplySmall_2 rfl ?_
  refine g_get (ci := 7) C rfl inTX5 1 (by decide) fl_RX5_17 rfl hO rfl dX5_multiplySmall_3 ?_
  refine g_iconst C dX5_multiplySmall_6 ?_
  refine g_iadd C dX5_multiplySmall_7 ?_
  rw [show (u : Int) + 1 = ((u + 1 : Nat) : Int) by omega]
  refine g_min C ml_RX5_66 (by omega) (by omega) (by omega) (by omega) (Nat.le_of_ble_eq_true rfl) (by omega) dX5_multiplySmall_8 ?_
  rw [he3]
  refine g_istore_n C dX5_multiplySmall_11 (by decide) rfl ?_
  refine g_iload_n C dX5_multiplySmall_12 rfl ?_
  refine g_i2l C dX5_multiplySmall_13 (by omega) ?_
  refine g_lstore C dX5_multiplySmall_14 (by decide) rfl ?_
  refine g_iconst C dX5_multiplySmall_16 ?_
  refine g_istore C dX5_multiplySmall_17 (by decide) rfl ?_
  suffices hh : G E X 7 19 [some (.ref a), some (iI by_), some (iI mo), some (iI (e : Int)), some (jJ mo), none, some (iI ((0 : Nat) : Int))] [] (wset w r (true, eI 18 f)) 0 0 by rw [wset_id hR] at hh; exact hh
  refine g_loop (σ := Nat × Int × (Nat → Int)) (fun t => t.1 ≤ e ∧ (-1000 ≤ t.2.1 ∧ t.2.1 < 68719476736) ∧ DC t.2.2) (fun t => G E X 7 19 [some (.ref a), some (iI by_), some (iI mo), some (iI (e : Int)), some (jJ t.2.1), none, some (iI (t.1 : Int))] [] (wset w r (true, eI 18 t.2.2)) 0 0) (fun t => e - t.1) ?_ (0, mo, f) ⟨Nat.zero_le _, by dsimp only; omega, hf⟩
  rintro ⟨j, c, h⟩ hq ih
  obtain ⟨hj, hc, hdh⟩ := hq
  dsimp only at hj hc hdh ⊢
  have hOk : (wset w r (true, eI 18 h)).2 a = some (true, oW r u bl) := by rw [wset_n hne]; exact hO
  refine g_iload C dX5_multiplySmall_19 rfl ?_
  refine g_iload_n C dX5_multiplySmall_21 rfl ?_
  refine g_icmp_ge (tgt := 68) C dX5_multiplySmall_22 (by decide) (by omega) (by omega) (fun h22 => ?_) (fun h22 => ?_)
  · refine g_aload_n C dX5_multiplySmall_68 rfl ?_
    refine g_iload_n C dX5_multiplySmall_69 rfl ?_
    refine g_callV C (s_X5_trim _ (p := e) hOk wset_s hdh he1 hbl) (ci := 7) rfl hOk rfl ml_RX5_30 im_yX5_trim se_RX5_yX5_trim in_RX5 co_yX5_trim hd_X5_trim rfl ⟨by omega, by omega⟩ rfl (Nat.le_of_ble_eq_true rfl) ⟨by omega, by omega⟩ dX5_multiplySmall_70 (fun v70 w70 hp70 => ?_)
    obtain ⟨rfl, hw9, fr9⟩ := hp70
    exact g_return C hQ dX5_multiplySmall_73 (Nat.le_refl _) (Nat.le_refl _) ⟨rfl, hw9, ⟨fr9.1, fun x h3 h4 => by rw [fr9.2 x h3, wset_n h4]⟩⟩
  · have hhj := hdh j (by omega)
    have hmb : 0 ≤ h j * by_ ∧ h j * by_ ≤ 268435456 * 1000 := ⟨Int.mul_nonneg hhj.1 hby.1, Int.mul_le_mul (by omega) hby.2 hby.1 (by decide)⟩
    have hm28 := mod28 (c + h j * by_)
    obtain ⟨z59, hz59, hz59a, hz59b⟩ := ushr28 (c + h j * by_)
    refine g_lload C dX5_multiplySmall_25 rfl ?_
    refine g_aload_n C dX5_multiplySmall_27 rfl ?_
    refine g_get (ci := 7) C rfl inTX5 0 (by decide) fl_RX5_9 rfl hOk rfl dX5_multiplySmall_28 ?_
    refine g_iload C dX5_multiplySmall_31 rfl ?_
    refine g_ialoadN (j) C wset_s (by omega) (by omega) dX5_multiplySmall_33 ?_
    refine g_i2l C dX5_multiplySmall_34 (by omega) ?_
    refine g_iload_n C dX5_multiplySmall_35 rfl ?_
    refine g_i2l C dX5_multiplySmall_36 (by omega) ?_
    refine g_lmul C dX5_multiplySmall_37 ?_
    refine g_ladd C dX5_multiplySmall_38 ?_
    refine g_lstore C dX5_multiplySmall_39 (by decide) rfl ?_
    refine g_aload_n C dX5_multiplySmall_41 rfl ?_
    refine g_get (ci := 7) C rfl inTX5 0 (by decide) fl_RX5_9 rfl hOk rfl dX5_multiplySmall_42 ?_
    refine g_iload C dX5_multiplySmall_45 rfl ?_
    refine g_lload C dX5_multiplySmall_47 rfl ?_
    refine g_ldc2 (z := 268435455) C kj_RX5_28 (by decide) dX5_multiplySmall_49 ?_
    refine g_land (z := (c + h j * by_) % B28) C dX5_multiplySmall_52 (j_mask 28 (by omega) mask28) ?_
    refine g_l2i C dX5_multiplySmall_53 ?_
    refine g_iastoreN (j) C wset_s (by omega) (by omega) dX5_multiplySmall_54 ?_
    rw [wset_set]
    refine g_lload C dX5_multiplySmall_55 rfl ?_
    refine g_bipush C dX5_multiplySmall_57 (by decide) ?_
    refine g_lushr (z := z59) C dX5_multiplySmall_59 hz59 ?_
    refine g_lstore C dX5_multiplySmall_60 (by decide) rfl ?_
    refine g_iinc C dX5_multiplySmall_62 rfl (by decide) rfl ?_
    refine g_goto (tgt := 19) C dX5_multiplySmall_65 (by decide) ?_
    exact ih (j + 1, z59, iup h j ((c + h j * by_) % B28)) ⟨by dsimp only; omega, by dsimp only; omega, hdh.up _ hm28⟩ (by dsimp only; omega)
set_option maxHeartbeats 4000000 in
set_option maxRecDepth 100000 in
theorem s_X5_divideSmall (l : Launch) {E : GE} {w : Wd} {a r : Nat} (hW : WS w a r) {y : Int} (hy : 1 ≤ y ∧ y ≤ 1000) : Sp E l yX5_divideSmall cX5_divideSmall 7 (some .int) 1 (0) (0) [.ref a, iI y] w (fun r' w' => (∃ d : Int, r' = some (iI d) ∧ 0 ≤ d ∧ d < y) ∧ WS w' a r ∧ FrW w w' a r) := by
  refine sp_intro [some (.ref a), some (iI y), none, none, none, none, none] rfl (Nat.le_of_ble_eq_true rfl) pn_X5 ?_
  intro X C hRm hl hnm hQ
  obtain ⟨hRf, hRl, hRc, hRs⟩ := hRm
  refine g_wf (fun hwf => ?_)
  have hB28 : B28 = 268435456 := rfl
  obtain ⟨f, u, bl, hO, hR, hf, hu18, hbl⟩ := id hW
  have hne := oI_ne hO hR
  obtain ⟨e, he1, he2, he3⟩ := mn18 u
  refine g_iload_n C dX5_divideSmall_0 rfl ?_
  refine g_iconst C dX5_divideSmall_1 ?_
  refine g_icmp_ge (tgt := 7) C dX5_divideSmall_2 (by decide) (by omega) (by omega) (fun h2 => ?_) (fun h2 => ?_)
  · refine g_lconst (z := 0) C dX5_divideSmall_7 (by decide) ?_
    refine g_lstore_n C dX5_divideSmall_8 (by decide) rfl ?_
    refine g_bipush C dX5_divideSmall_9 (by decide) ?_
    refine g_aload_n C dX5_divideSmall_11 rfl ?_
    refine g_get (ci := 7) C rfl inTX5 1 (by decide) fl_RX5_17 rfl hO rfl dX5_divideSmall_12 ?_
    refine g_min C ml_RX5_66 (by omega) (by omega) (by omega) (by omega) (Nat.le_of_ble_eq_true rfl) (by omega) dX5_divideSmall_15 ?_
    rw [he3]
    refine g_iconst C dX5_divideSmall_18 ?_
    refine g_isub C dX5_divideSmall_19 ?_
    refine g_istore C dX5_divideSmall_20 (by decide) rfl ?_
    suffices hh : G E X 7 22 [some (.ref a), some (iI y), some (jJ 0), none, some (iI ((e : Int) - 1)), none, none] [] (wset w r (true, eI 18 f)) 0 0 by rw [wset_id hR] at hh; exact hh
    refine g_loop (σ := Int × Int × (Nat → Int)) (fun t => -1 ≤ t.1 ∧ t.1 ≤ 17 ∧ (0 ≤ t.2.1 ∧ t.2.1 < y) ∧ DC t.2.2) (fun t => G E X 7 22 [some (.ref a), some (iI y), some (jJ t.2.1), none, some (iI t.1), none, none] [] (wset w r (true, eI 18 t.2.2)) 0 0) (fun t => (t.1 + 1).toNat) ?_ ((e : Int) - 1, 0, f) ⟨by dsimp only; omega, by dsimp only; omega, by dsimp only; omega, hf⟩
    rintro ⟨k, c, h⟩ hq ih
    obtain ⟨hk0, hk1, hc, hdh⟩ := hq
    dsimp only at hk0 hk1 hc hdh ⊢
    have hOk : (wset w r (true, eI 18 h)).2 a = some (true, oW r u bl) := by rw [wset_n hne]; exact hO
    refine g_iload C dX5_divideSmall_22 rfl ?_
    refine g_if_lt (tgt := 67) C dX5_divideSmall_24 (by decide) (by omega) (fun h24 => ?_) (fun h24 => ?_)
    · refine g_aload_n C dX5_divideSmall_67 rfl ?_
      refine g_aload_n C dX5_divideSmall_68 rfl ?_
      refine g_get (ci := 7) C rfl inTX5 1 (by decide) fl_RX5_17 rfl hOk rfl dX5_divideSmall_69 ?_
      refine g_callV C (s_X5_trim _ (p := u) hOk wset_s hdh hu18 hbl) (ci := 7) rfl hOk rfl ml_RX5_30 im_yX5_trim se_RX5_yX5_trim in_RX5 co_yX5_trim hd_X5_trim rfl ⟨by omega, by omega⟩ rfl (Nat.le_of_ble_eq_true rfl) ⟨by omega, by omega⟩ dX5_divideSmall_72 (fun v72 w72 hp72 => ?_)
      obtain ⟨rfl, hw9, fr9⟩ := hp72
      refine g_lload_n C dX5_divideSmall_75 rfl ?_
      refine g_l2i C dX5_divideSmall_76 ?_
      exact g_ireturn C hQ dX5_divideSmall_77 (Nat.le_refl _) (Nat.le_refl _) ⟨⟨c, rfl, hc.1, hc.2⟩, hw9, ⟨fr9.1, fun x h3 h4 => by rw [fr9.2 x h3, wset_n h4]⟩⟩
    · have hhj := hdh k.toNat (by omega)
      have hdv := div28 hc hhj
      refine g_lload_n C dX5_divideSmall_27 rfl ?_
      refine g_bipush C dX5_divideSmall_28 (by decide) ?_
      refine g_lshl (z := c * 268435456) C dX5_divideSmall_30 (j_shl28 c) ?_
      refine g_aload_n C dX5_divideSmall_31 rfl ?_
      refine g_get (ci := 7) C rfl inTX5 0 (by decide) fl_RX5_9 rfl hOk rfl dX5_divideSmall_32 ?_
      refine g_iload C dX5_divideSmall_35 rfl ?_
      refine g_iaload C wset_s (by omega) dX5_divideSmall_37 ?_
      refine g_i2l C dX5_divideSmall_38 (by omega) ?_
      refine g_ladd C dX5_divideSmall_39 ?_
      refine g_lstore C dX5_divideSmall_40 (by decide) rfl ?_
      refine g_aload_n C dX5_divideSmall_42 rfl ?_
      refine g_get (ci := 7) C rfl inTX5 0 (by decide) fl_RX5_9 rfl hOk rfl dX5_divideSmall_43 ?_
      refine g_iload C dX5_divideSmall_46 rfl ?_
      refine g_lload C dX5_divideSmall_48 rfl ?_
      refine g_iload_n C dX5_divideSmall_50 rfl ?_
      refine g_i2l C dX5_divideSmall_51 (by omega) ?_
      refine g_ldivN C dX5_divideSmall_52 (by omega) (by omega) ?_
      refine g_l2i C dX5_divideSmall_53 ?_
      refine g_iastore C wset_s (by omega) dX5_divideSmall_54 ?_
      rw [wset_set]
      refine g_lload C dX5_divideSmall_55 rfl ?_
      refine g_iload_n C dX5_divideSmall_57 rfl ?_
      refine g_i2l C dX5_divideSmall_58 (by omega) ?_
      refine g_lremN C dX5_divideSmall_59 (by omega) (by omega) ?_
      refine g_lstore_n C dX5_divideSmall_60 (by decide) rfl ?_
      refine g_iinc C dX5_divideSmall_61 rfl (by decide) rfl ?_
      refine g_goto (tgt := 22) C dX5_divideSmall_64 (by decide) ?_
      refine g_drop 5 ?_
      exact ih (k + -1, (c * 268435456 + h k.toNat) % y, iup h k.toNat ((c * 268435456 + h k.toNat) / y)) ⟨by dsimp only; omega, by dsimp only; omega, ⟨hdv.2.2.1, hdv.2.2.2⟩, hdh.up _ ⟨hdv.1, hdv.2.1⟩⟩ (by dsimp only; omega)
  · omega
set_option maxHeartbeats 4000000 in
set_option maxRecDepth 100000 in
theorem s_X5_shiftUp (l : Launch) {E : GE} {w : Wd} {a r : Nat} (hW : WS w a r) {mn : Int} (hmn : -2000 ≤ mn ∧ mn ≤ 2000) : Sp E l yX5_shiftUp cX5_shiftUp 9 none 1 (0) (0) [.ref a, iI mn] w (fun r' w' => r' = none ∧ WS w' a r ∧ FrW w w' a r) := by
  refine sp_intro [some (.ref a), some (iI mn), none, none, none, none, none, none, none] rfl (Nat.le_of_ble_eq_true rfl) pn_X5 ?_
  intro X C hRm hl hnm hQ
  obtain ⟨hRf, hRl, hRc, hRs⟩ := hRm
  refine g_wf (fun hwf => ?_)
  have hB28 : B28 = 268435456 := rfl
  obtain ⟨f, u, bl, hO, hR, hf, hu18, hbl⟩ := id hW
  have hne := oI_ne hO hR
  obtain ⟨mm, hmm, hmx⟩ := mxn (x := mn) (N := 2000) (by omega)
  obtain ⟨hD, hB⟩ := dv28 mm
  have hD9 : mm / 28 ≤ 72 := by omega
  have hB9 : mm % 28 ≤ 27 := by omega
  generalize mm / 28 = D at hD hD9
  generalize mm % 28 = Bt at hB hB9
  obtain ⟨e, he1, he2, he3⟩ := mn18 (u + D + 1)
  refine g_iconst C dX5_shiftUp_0 ?_
  refine g_iload_n C dX5_shiftUp_1 rfl ?_
  refine g_max C ml_RX5_60 (by omega) (by omega) (by omega) (by omega) (Nat.le_of_ble_eq_true rfl) (by omega) dX5_shiftUp_2 ?_
  rw [hmx]
  refine g_bipush C dX5_shiftUp_5 (by decide) ?_
  refine g_idivN C dX5_shiftUp_7 (by omega) (by omega) ?_
  rw [hD]
  refine g_istore_n C dX5_shiftUp_8 (by decide) rfl ?_
  refine g_iconst C dX5_shiftUp_9 ?_
  refine g_iload_n C dX5_shiftUp_10 rfl ?_
  refine g_max C ml_RX5_60 (by omega) (by omega) (by omega) (by omega) (Nat.le_of_ble_eq_true rfl) (by omega) dX5_shiftUp_11 ?_
  rw [hmx]
  refine g_bipush C dX5_shiftUp_14 (by decide) ?_
  refine g_iremN C dX5_shiftUp_16 (by omega) (by omega) ?_
  rw [hB]
  refine g_istore_n C dX5_shiftUp_17 (by decide) rfl ?_
  refine g_bipush C dX5_shiftUp_18 (by decide) ?_
  refine g_aload_n C dX5_shiftUp_20 rfl ?_
  refine g_get (ci := 7) C rfl inTX5 1 (by decide) fl_RX5_17 rfl hO rfl dX5_shiftUp_21 ?_
  refine g_iload_n C dX5_shiftUp_24 rfl ?_
  refine g_iadd C dX5_shiftUp_25 ?_
  refine g_iconst C dX5_shiftUp_26 ?_
  refine g_iadd C dX5_shiftUp_27 ?_
  rw [show (u : Int) + (D : Int) + 1 = ((u + D + 1 : Nat) : Int) by omega]
  refine g_min C ml_RX5_66 (by omega) (by omega) (by omega) (by omega) (Nat.le_of_ble_eq_true rfl) (by omega) dX5_shiftUp_28 ?_
  rw [he3]
  refine g_istore C dX5_shiftUp_31 (by decide) rfl ?_
  refine g_iload C dX5_shiftUp_33 rfl ?_
  refine g_iconst C dX5_shiftUp_35 ?_
  refine g_isub C dX5_shiftUp_36 ?_
  refine g_istore C dX5_shiftUp_37 (by decide) rfl ?_
  suffices hh : G E X 9 39 [some (.ref a), some (iI mn), some (iI (D : Int)), some (iI (Bt : Int)), some (iI (e : Int)), some (iI ((e : Int) - 1)), none, none, none] [] (wset w r (true, eI 18 f)) 0 0 by rw [wset_id hR] at hh; exact hh
  refine g_loop (σ := Int × (Nat → Int)) (fun t => -1 ≤ t.1 ∧ t.1 ≤ 17 ∧ DC t.2) (fun t => G E X 9 39 [some (.ref a), some (iI mn), some (iI (D : Int)), some (iI (Bt : Int)), some (iI (e : Int)), some (iI t.1), none, none, none] [] (wset w r (true, eI 18 t.2)) 0 0) (fun t => (t.1 + 1).toNat) ?_ ((e : Int) - 1, f) ⟨by dsimp only; omega, by dsimp only; omega, hf⟩
  rintro ⟨k, h⟩ hq ih
  obtain ⟨hk0, hk1, hdh⟩ := hq
  dsimp only at hk0 hk1 hdh ⊢
  have hOk : (wset w r (true, eI 18 h)).2 a = some (true, oW r u bl) := by rw [wset_n hne]; exact hO
  refine g_iload C dX5_shiftUp_39 rfl ?_
  refine g_if_lt (tgt := 117) C dX5_shiftUp_41 (by decide) (by omega) (fun h41 => ?_) (fun h41 => ?_)
  · refine g_aload_n C dX5_shiftUp_117 rfl ?_
    refine g_iload C dX5_shiftUp_118 rfl ?_
    refine g_callV C (s_X5_trim _ (p := e) hOk wset_s hdh he1 hbl) (ci := 7) rfl hOk rfl ml_RX5_30 im_yX5_trim se_RX5_yX5_trim in_RX5 co_yX5_trim hd_X5_trim rfl ⟨by omega, by omega⟩ rfl (Nat.le_of_ble_eq_true rfl) ⟨by omega, by omega⟩ dX5_shiftUp_120 (fun v120 w120 hp120 => ?_)
    obtain ⟨rfl, hw9, fr9⟩ := hp120
    exact g_return C hQ dX5_shiftUp_123 (Nat.le_refl _) (Nat.le_refl _) ⟨rfl, hw9, ⟨fr9.1, fun x h3 h4 => by rw [fr9.2 x h3, wset_n h4]⟩⟩
  · refine g_iload C dX5_shiftUp_44 rfl ?_
    refine g_iload_n C dX5_shiftUp_46 rfl ?_
    refine g_isub C dX5_shiftUp_47 ?_
    refine g_istore C dX5_shiftUp_48 (by decide) rfl ?_
    have J68 : ∀ x : Int, G E X 9 68 [some (.ref a), some (iI mn), some (iI (D : Int)), some (iI (Bt : Int)), some (iI (e : Int)), some (iI k), some (iI (k - (D : Int))), none, none] [iI x] (wset w r (true, eI 18 h)) 0 0 := by
      intro x
      refine g_istore C dX5_shiftUp_68 (by decide) rfl ?_
      have J94 : ∀ y : Int, 0 ≤ y ∧ y < B28 → G E X 9 94 [some (.ref a), some (iI mn), some (iI (D : Int)), some (iI (Bt : Int)), some (iI (e : Int)), some (iI k), some (iI (k - (D : Int))), some (iI x), none] [iI y] (wset w r (true, eI 18 h)) 0 0 := by
        intro y hy
        obtain ⟨z109, hz109, hz109a, hz109b⟩ := or28 (mod28 x) hy
        refine g_istore C dX5_shiftUp_94 (by decide) rfl ?_
        refine g_aload_n C dX5_shiftUp_96 rfl ?_
        refine g_get (ci := 7) C rfl inTX5 0 (by decide) fl_RX5_9 rfl hOk rfl dX5_shiftUp_97 ?_
        refine g_iload C dX5_shiftUp_100 rfl ?_
        refine g_iload C dX5_shiftUp_102 rfl ?_
        refine g_ldc (z := 268435455) C ko_RX5_69 (by decide) dX5_shiftUp_104 ?_
        refine g_iand (z := x % B28) C dX5_shiftUp_106 (i_mask 28 (by omega) mask28) ?_
        refine g_iload C dX5_shiftUp_107 rfl ?_
        refine g_ior (z := z109) C dX5_shiftUp_109 hz109 ?_
        refine g_iastore C wset_s (by omega) dX5_shiftUp_110 ?_
        rw [wset_set]
        refine g_iinc C dX5_shiftUp_111 rfl (by decide) rfl ?_
        refine g_goto (tgt := 39) C dX5_shiftUp_114 (by decide) ?_
        refine g_drop 8 ?_
        refine g_drop 7 ?_
        refine g_drop 6 ?_
        exact ih (k + -1, iup h k.toNat z109) ⟨by dsimp only; omega, by dsimp only; omega, hdh.up _ ⟨hz109a, hz109b⟩⟩ (by dsimp only; omega)
      refine g_iload C dX5_shiftUp_70 rfl ?_
      refine g_iconst C dX5_shiftUp_72 ?_
      refine g_icmp_lt (tgt := 93) C dX5_shiftUp_73 (by decide) (by omega) (by omega) (fun h73 => ?_) (fun h73 => ?_)
      · refine g_iconst C dX5_shiftUp_93 ?_
        first
        | exact J94 _ ⟨Int.ediv_nonneg hhl.1 (Int.le_of_lt (Int.pow_pos (by decide))), Int.lt_of_le_of_lt (Int.ediv_le_self _ hhl.1) hhl.2⟩
        | exact J94 0 (by omega)
      · have hhl := hdh (k - (D : Int) - 1).toNat (by omega)
        refine g_aload_n C dX5_shiftUp_76 rfl ?_
        refine g_get (ci := 7) C rfl inTX5 0 (by decide) fl_RX5_9 rfl hOk rfl dX5_shiftUp_77 ?_
        refine g_iload C dX5_shiftUp_80 rfl ?_
        refine g_iconst C dX5_shiftUp_82 ?_
        refine g_isub C dX5_shiftUp_83 ?_
        refine g_iaload C wset_s (by omega) dX5_shiftUp_84 ?_
        refine g_bipush C dX5_shiftUp_85 (by decide) ?_
        refine g_iload_n C dX5_shiftUp_87 rfl ?_
        refine g_isub C dX5_shiftUp_88 ?_
        rw [show (28 : Int) - (Bt : Int) = ((28 - Bt : Nat) : Int) by omega]
        refine g_iushr (z := h (k - (D : Int) - 1).toNat / 2 ^ (28 - Bt)) C dX5_shiftUp_89 (i_ushr (28 - Bt) (by omega) (by omega) (shd28 (28 - Bt) (by omega))) ?_
        refine g_goto (tgt := 94) C dX5_shiftUp_90 (by decide) ?_
        first
        | exact J94 _ ⟨Int.ediv_nonneg hhl.1 (Int.le_of_lt (Int.pow_pos (by decide))), Int.lt_of_le_of_lt (Int.ediv_le_self _ hhl.1) hhl.2⟩
        | exact J94 0 (by omega)
    refine g_iload C dX5_shiftUp_50 rfl ?_
    refine g_if_lt (tgt := 67) C dX5_shiftUp_52 (by decide) (by omega) (fun h52 => ?_) (fun h52 => ?_)
    · refine g_iconst C dX5_shiftUp_67 ?_
      exact J68 _
    · refine g_aload_n C dX5_shiftUp_55 rfl ?_
      refine g_get (ci := 7) C rfl inTX5 0 (by decide) fl_RX5_9 rfl hOk rfl dX5_shiftUp_56 ?_
      refine g_iload C dX5_shiftUp_59 rfl ?_
      refine g_iaload C wset_s (by omega) dX5_shiftUp_61 ?_
      refine g_iload_n C dX5_shiftUp_62 rfl ?_
      refine g_ishl (z := h (k - (D : Int)).toNat * 2 ^ Bt) C dX5_shiftUp_63 (i_shl Bt (by omega)) ?_
      refine g_goto (tgt := 68) C dX5_shiftUp_64 (by decide) ?_
      exact J68 _
set_option maxHeartbeats 4000000 in
set_option maxRecDepth 100000 in
theorem s_X5_setWhole (l : Launch) {E : GE} {w : Wd} {a r b s : Nat} (h1 : WS w a r) (h2 : WS w b s) (hrs : r ≠ s) : Sp E l yX5_setWhole cX5_setWhole 2 none 1 (0) (0) [.ref a, .ref b] w (fun r' w' => r' = none ∧ WS w' a r ∧ FrW w w' a r) := by
  refine sp_intro [some (.ref a), some (.ref b)] rfl (Nat.le_of_ble_eq_true rfl) pn_X5 ?_
  intro X C hRm hl hnm hQ
  obtain ⟨hRf, hRl, hRc, hRs⟩ := hRm
  refine g_wf (fun hwf => ?_)
  have hB28 : B28 = 268435456 := rfl
  obtain ⟨f, u, bl, hO, hR, hf, hu18, hbl⟩ := id h1
  obtain ⟨g, v, bm, hO2, hR2, hg, hv18, hbm⟩ := id h2
  have hne := oI_ne hO hR
  have hne2 := oI_ne hO2 hR2
  have hn12 := oI_ne hO hR2
  have hn21 := oI_ne hO2 hR
  have hcp : DC (cpyI g f (0 : Int).toNat (0 : Int).toNat (18 : Int).toNat) := fun i hi => by
    have e : cpyI g f (0 : Int).toNat (0 : Int).toNat (18 : Int).toNat i = g i := by
      show (if 0 ≤ i ∧ i < 0 + 18 then g (0 + (i - 0)) else f i) = g i
      rw [if_pos ⟨Nat.zero_le _, by omega⟩, Nat.zero_add, Nat.sub_zero]
    rw [e]; exact hg i hi
  have hab := oo_ne hO hO2 hrs
  refine g_aload_n C dX5_setWhole_0 rfl ?_
  refine g_get (ci := 7) C rfl inTX5 0 (by decide) fl_RX5_9 rfl hO2 rfl dX5_setWhole_1 ?_
  refine g_iconst C dX5_setWhole_4 ?_
  refine g_aload_n C dX5_setWhole_5 rfl ?_
  refine g_get (ci := 7) C rfl inTX5 0 (by decide) fl_RX5_9 rfl hO rfl dX5_setWhole_6 ?_
  refine g_iconst C dX5_setWhole_9 ?_
  refine g_bipush C dX5_setWhole_10 (by decide) ?_
  refine g_acopyI C (f := g) (g := f) ⟨hR2, hR, by omega⟩ ml_RX5_34 (by omega) (by omega) (Nat.le_of_ble_eq_true rfl) dX5_setWhole_12 ?_
  refine g_aload_n C dX5_setWhole_15 rfl ?_
  refine g_aload_n C dX5_setWhole_16 rfl ?_
  refine g_get (ci := 7) C rfl inTX5 1 (by decide) fl_RX5_17 rfl (by rw [wset_n hn21]; exact hO2) rfl dX5_setWhole_17 ?_
  refine g_put (ci := 7) C rfl inTX5 tyX5 tyX5_ok nmX5 1 (by decide) fl_RX5_17 rfl rfl (by rw [wset_n hne]; exact hO) (Nat.le_of_ble_eq_true rfl) rfl rfl dX5_setWhole_20 ?_
  refine g_aload_n C dX5_setWhole_23 rfl ?_
  refine g_aload_n C dX5_setWhole_24 rfl ?_
  refine g_get (ci := 7) C rfl inTX5 2 (by decide) fl_RX5_13 rfl (by rw [wset_n (Ne.symm hab), wset_n hn21]; exact hO2) rfl dX5_setWhole_25 ?_
  refine g_put (ci := 7) C rfl inTX5 tyX5 tyX5_ok nmX5 2 (by decide) fl_RX5_13 rfl rfl wset_s (Nat.le_of_ble_eq_true rfl) (by rcases hbm with c | c <;> (rw [c]; rfl)) (by rcases hbm with c | c <;> (rw [c]; rfl)) dX5_setWhole_28 ?_
  exact g_return C hQ dX5_setWhole_31 (Nat.le_refl _) (Nat.le_refl _) ⟨rfl, ⟨_, v, bm, wset_s, by rw [wset_n (Ne.symm hne), wset_n (Ne.symm hne)]; exact wset_s, hcp, hv18, hbm⟩, (((FrW.rf w a r).set (Or.inr rfl) _).set (Or.inl rfl) _).set (Or.inl rfl) _⟩
set_option maxHeartbeats 4000000 in
set_option maxRecDepth 100000 in
theorem s_X5_setNumber (l : Launch) {E : GE} {w : Wd} {a r : Nat} (hW : WS w a r) {x : Int} (hx : -9223372036854775808 ≤ x ∧ x < 9223372036854775808) : Sp E l yX5_setNumber cX5_setNumber 6 none 2 (0) (0) [.ref a, jJ x] w (fun r' w' => r' = none ∧ WS w' a r ∧ FrW w w' a r) := by
  refine sp_intro [some (.ref a), some (jJ x), none, none, none, none] rfl (Nat.le_of_ble_eq_true rfl) pn_X5 ?_
  intro X C hRm hl hnm hQ
  obtain ⟨hRf, hRl, hRc, hRs⟩ := hRm
  refine g_wf (fun hwf => ?_)
  have hB28 : B28 = 268435456 := rfl
  obtain ⟨f, u, bl, hO, hR, hf, hu18, hbl⟩ := id hW
  have hne := oI_ne hO hR
  refine g_aload_n C dX5_setNumber_0 rfl ?_
  refine g_callV C (c_X5_clear _ hO hR) (ci := 7) rfl hO rfl ml_RX5_25 im_yX5_clear se_RX5_yX5_clear in_RX5 co_yX5_clear hd_X5_clear rfl ⟨by omega, by omega⟩ rfl (Nat.le_of_ble_eq_true rfl) ⟨by omega, by omega⟩ dX5_setNumber_1 (fun v1 w1 hp1 => ?_)
  obtain ⟨rfl, g1, hO1, hR1, hg1, fr1⟩ := hp1
  have J16 : ∀ q : Int, (q = 1 ∨ q = 0) → G E X 6 16 [some (.ref a), some (jJ x), none, none, none, none] [iI q, .ref a] w1 0 0 := by
    intro q hq
    refine g_put (ci := 7) C rfl inTX5 tyX5 tyX5_ok nmX5 2 (by decide) fl_RX5_13 rfl rfl hO1 (Nat.le_of_ble_eq_true rfl) (by rcases hq with c | c <;> (rw [c]; rfl)) (by rcases hq with c | c <;> (rw [c]; rfl)) dX5_setNumber_16 ?_
    obtain ⟨w2, hw0⟩ : ∃ w2, w2 = wset w1 a (true, eO 7 [.ref r, iI 0, iI q]) := ⟨_, rfl⟩
    refine g_eqw (w' := w2) hw0.symm ?_
    have hO2 : w2.2 a = some (true, eO 7 [.ref r, iI 0, iI q]) := by rw [hw0]; exact wset_s
    have hR2 : w2.2 r = some (true, eI 18 g1) := by rw [hw0, wset_n (Ne.symm hne)]; exact hR1
    have fr2 : FrW w w2 a r := by rw [hw0]; exact fr1.set (Or.inl rfl) _
    have hq01 : q = 0 ∨ q = 1 := by omega
    have J32 : ∀ y : Int, -9223372036854775808 ≤ y ∧ y < 9223372036854775808 → G E X 6 32 [some (.ref a), some (jJ x), none, none, none, none] [jJ y] w2 0 0 := by
      intro y hy
      refine g_lstore_n C dX5_setNumber_32 (by decide) rfl ?_
      refine g_iconst C dX5_setNumber_33 ?_
      refine g_istore C dX5_setNumber_34 (by decide) rfl ?_
      have J73 : ∀ (k : Nat) (lf : Int) (h : Nat → Int), DC h → G E X 6 73 [some (.ref a), some (jJ x), none, some (jJ lf), none, some (iI (k : Int))] [] (wset w2 r (true, eI 18 h)) 0 0 := by
        intro k lf h hdh
        have hOk : (wset w2 r (true, eI 18 h)).2 a = some (true, eO 7 [.ref r, iI 0, iI q]) := by rw [wset_n hne]; exact hO2
        refine g_aload_n C dX5_setNumber_73 rfl ?_
        refine g_bipush C dX5_setNumber_74 (by decide) ?_
        refine g_callV C (s_X5_trim _ (p := 18) hOk wset_s hdh (Nat.le_refl _) hq01) (ci := 7) rfl hOk rfl ml_RX5_30 im_yX5_trim se_RX5_yX5_trim in_RX5 co_yX5_trim hd_X5_trim rfl ⟨by omega, by omega⟩ rfl (Nat.le_of_ble_eq_true rfl) ⟨by omega, by omega⟩ dX5_setNumber_76 (fun v76 w76 hp76 => ?_)
        obtain ⟨rfl, hw9, fr9⟩ := hp76
        exact g_return C hQ dX5_setNumber_79 (Nat.le_refl _) (Nat.le_refl _) ⟨rfl, hw9, ⟨fr9.1.trans fr2.1, fun y h3 h4 => by rw [fr9.2 y h3, wset_n h4]; exact fr2.2 y h3 h4⟩⟩
      suffices hh : G E X 6 36 [some (.ref a), some (jJ x), none, some (jJ y), none, some (iI ((0 : Nat) : Int))] [] (wset w2 r (true, eI 18 g1)) 0 0 by rw [wset_id hR2] at hh; exact hh
      refine g_loop (σ := Nat × Int × (Nat → Int)) (fun t => t.1 ≤ 18 ∧ (-9223372036854775808 ≤ t.2.1 ∧ t.2.1 < 9223372036854775808) ∧ DC t.2.2) (fun t => G E X 6 36 [some (.ref a), some (jJ x), none, some (jJ t.2.1), none, some (iI (t.1 : Int))] [] (wset w2 r (true, eI 18 t.2.2)) 0 0) (fun t => 18 - t.1) ?_ (0, y, g1) ⟨by dsimp only; omega, hy, fun i hi => by dsimp only; rw [hg1 i hi]; decide⟩
      rintro ⟨j, lf, h⟩ hq9 ih
      obtain ⟨hj, hl0, hdh⟩ := hq9
      dsimp only at hj hl0 hdh ⊢
      have hOk : (wset w2 r (true, eI 18 h)).2 a = some (true, eO 7 [.ref r, iI 0, iI q]) := by rw [wset_n hne]; exact hO2
      have hm28 := mod28 lf
      obtain ⟨z65, hz65, hz65a, hz65b⟩ := ushr28 lf
      refine g_iload C dX5_setNumber_36 rfl ?_
      refine g_bipush C dX5_setNumber_38 (by decide) ?_
      refine g_icmp_ge (tgt := 73) C dX5_setNumber_40 (by decide) (by omega) (by omega) (fun h40 => ?_) (fun h40 => ?_)
      · exact J73 j lf h hdh
      · refine g_lload_n C dX5_setNumber_43 rfl ?_
        refine g_lconst (z := 0) C dX5_setNumber_44 (by decide) ?_
        refine g_lcmp C dX5_setNumber_45 (by omega) (by omega) (fun c45 hc45 => ?_)
        refine g_if_eq (tgt := 73) C dX5_setNumber_46 (by decide) (by omega) (fun h46 => ?_) (fun h46 => ?_)
        · exact J73 j lf h hdh
        · refine g_aload_n C dX5_setNumber_49 rfl ?_
          refine g_get (ci := 7) C rfl inTX5 0 (by decide) fl_RX5_9 rfl hOk rfl dX5_setNumber_50 ?_
          refine g_iload C dX5_setNumber_53 rfl ?_
          refine g_lload_n C dX5_setNumber_55 rfl ?_
          refine g_ldc2 (z := 268435455) C kj_RX5_28 (by decide) dX5_setNumber_56 ?_
          refine g_land (z := lf % B28) C dX5_setNumber_59 (j_mask 28 (by omega) mask28) ?_
          refine g_l2i C dX5_setNumber_60 ?_
          refine g_iastoreN (j) C wset_s (by omega) (by omega) dX5_setNumber_61 ?_
          rw [wset_set]
          refine g_lload_n C dX5_setNumber_62 rfl ?_
          refine g_bipush C dX5_setNumber_63 (by decide) ?_
          refine g_lushr (z := z65) C dX5_setNumber_65 hz65 ?_
          refine g_lstore_n C dX5_setNumber_66 (by decide) rfl ?_
          refine g_iinc C dX5_setNumber_67 rfl (by decide) rfl ?_
          refine g_goto (tgt := 36) C dX5_setNumber_70 (by decide) ?_
          exact ih (j + 1, z65, iup h j (lf % B28)) ⟨by dsimp only; omega, by dsimp only; omega, hdh.up _ hm28⟩ (by dsimp only; omega)
    refine g_aload_n C dX5_setNumber_19 rfl ?_
    refine g_get (ci := 7) C rfl inTX5 2 (by decide) fl_RX5_13 rfl hO2 rfl dX5_setNumber_20 ?_
    refine g_if_eq (tgt := 31) C dX5_setNumber_23 (by decide) (by omega) (fun h23 => ?_) (fun h23 => ?_)
    · refine g_lload_n C dX5_setNumber_31 rfl ?_
      first
      | (obtain ⟨z9, hz9, hz9a⟩ := gen64 (Int64.ofInt (-x))
         exact g_eq rfl (by unfold jJ; rw [hz9]) (J32 z9 hz9a))
      | exact J32 x hx
    · refine g_lload_n C dX5_setNumber_26 rfl ?_
      refine g_lneg C dX5_setNumber_27 ?_
      refine g_goto (tgt := 32) C dX5_setNumber_28 (by decide) ?_
      first
      | (obtain ⟨z9, hz9, hz9a⟩ := gen64 (Int64.ofInt (-x))
         exact g_eq rfl (by unfold jJ; rw [hz9]) (J32 z9 hz9a))
      | exact J32 x hx
  refine g_aload_n C dX5_setNumber_4 rfl ?_
  refine g_lload_n C dX5_setNumber_5 rfl ?_
  refine g_lconst (z := 0) C dX5_setNumber_6 (by decide) ?_
  refine g_lcmp C dX5_setNumber_7 (by omega) (by omega) (fun c7 hc7 => ?_)
  refine g_if_ge (tgt := 15) C dX5_setNumber_8 (by decide) (by omega) (fun h8 => ?_) (fun h8 => ?_)
  · refine g_iconst C dX5_setNumber_15 ?_
    exact J16 _ (by omega)
  · refine g_iconst C dX5_setNumber_11 ?_
    refine g_goto (tgt := 16) C dX5_setNumber_12 (by decide) ?_
    exact J16 _ (by omega)
set_option maxHeartbeats 4000000 in
set_option maxRecDepth 100000 in
theorem s_X5_setProduct (l : Launch) {E : GE} {w : Wd} {a r b s c t : Nat} (h1 : WS w a r) (h2 : WS w b s) (h3 : WS w c t) (hrs : r ≠ s) (hrt : r ≠ t) : Sp E l yX5_setProduct cX5_setProduct 8 none 2 (0) (0) [.ref a, .ref b, .ref c] w (fun r' w' => r' = none ∧ WS w' a r ∧ FrW w w' a r) := by
  refine sp_intro [some (.ref a), some (.ref b), some (.ref c), none, none, none, none, none] rfl (Nat.le_of_ble_eq_true rfl) pn_X5 ?_
  intro X C hRm hl hnm hQ
  obtain ⟨hRf, hRl, hRc, hRs⟩ := hRm
  refine g_wf (fun hwf => ?_)
  have hB28 : B28 = 268435456 := rfl
  obtain ⟨f, u, bl, hO, hR, hf, hu18, hbl⟩ := id h1
  obtain ⟨g, v, bm, hO2, hR2, hg, hv18, hbm⟩ := id h2
  obtain ⟨g2, v2, bn, hO3, hR3, hg2, hv28, hbn⟩ := id h3
  have hne := oI_ne hO hR
  obtain ⟨hab, has, hrb, -, -⟩ := h1.ne h2 hrs
  obtain ⟨hac, hat, hrc, -, -⟩ := h1.ne h3 hrt
  have hbr := Ne.symm hrb
  have hcr := Ne.symm hrc
  obtain ⟨e, he1, he2, he3⟩ := mn18 (v + v2)
  refine g_aload_n C dX5_setProduct_0 rfl ?_
  refine g_callV C (c_X5_clear _ hO hR) (ci := 7) rfl hO rfl ml_RX5_25 im_yX5_clear se_RX5_yX5_clear in_RX5 co_yX5_clear hd_X5_clear rfl ⟨by omega, by omega⟩ rfl (Nat.le_of_ble_eq_true rfl) ⟨by omega, by omega⟩ dX5_setProduct_1 (fun v1 w1 hp1 => ?_)
  obtain ⟨rfl, g1, hO1, hR1, hg1, fr1⟩ := hp1
  have kB : w1.2 b = some (true, oW s v bm) := by rw [fr1.2 b (Ne.symm hab) hbr]; exact hO2
  have kC : w1.2 c = some (true, oW t v2 bn) := by rw [fr1.2 c (Ne.symm hac) hcr]; exact hO3
  have kS : w1.2 s = some (true, eI 18 g) := by rw [fr1.2 s (Ne.symm has) (Ne.symm hrs)]; exact hR2
  have kT : w1.2 t = some (true, eI 18 g2) := by rw [fr1.2 t (Ne.symm hat) (Ne.symm hrt)]; exact hR3
  refine g_bipush C dX5_setProduct_4 (by decide) ?_
  refine g_aload_n C dX5_setProduct_6 rfl ?_
  refine g_get (ci := 7) C rfl inTX5 1 (by decide) fl_RX5_17 rfl kB rfl dX5_setProduct_7 ?_
  refine g_aload_n C dX5_setProduct_10 rfl ?_
  refine g_get (ci := 7) C rfl inTX5 1 (by decide) fl_RX5_17 rfl kC rfl dX5_setProduct_11 ?_
  refine g_iadd C dX5_setProduct_14 ?_
  rw [show (v : Int) + (v2 : Int) = ((v + v2 : Nat) : Int) by omega]
  refine g_min C ml_RX5_66 (by omega) (by omega) (by omega) (by omega) (Nat.le_of_ble_eq_true rfl) (by omega) dX5_setProduct_15 ?_
  rw [he3]
  refine g_istore_n C dX5_setProduct_18 (by decide) rfl ?_
  refine g_iconst C dX5_setProduct_19 ?_
  refine g_istore C dX5_setProduct_20 (by decide) rfl ?_
  suffices hh : G E X 8 22 [some (.ref a), some (.ref b), some (.ref c), some (iI (e : Int)), some (iI ((0 : Nat) : Int)), none, none, none] [] (wset w1 r (true, eI 18 g1)) 0 0 by rw [wset_id hR1] at hh; exact hh
  refine g_loop (σ := Nat × (Nat → Int)) (fun q => q.1 ≤ 18 ∧ DC q.2) (fun q => G E X 8 22 [some (.ref a), some (.ref b), some (.ref c), some (iI (e : Int)), some (iI (q.1 : Int)), none, none, none] [] (wset w1 r (true, eI 18 q.2)) 0 0) (fun q => 18 - q.1) ?_ (0, g1) ⟨by dsimp only; omega, fun i hi => by dsimp only; rw [hg1 i hi]; decide⟩
  rintro ⟨i, h⟩ hq ih
  obtain ⟨hi, hdh⟩ := hq
  dsimp only at hi hdh ⊢
  have hOi : (wset w1 r (true, eI 18 h)).2 a = some (true, eO 7 [.ref r, iI 0, iI 0]) := by rw [wset_n hne]; exact hO1
  have hBi : (wset w1 r (true, eI 18 h)).2 b = some (true, oW s v bm) := by rw [wset_n hbr]; exact kB
  have hCi : (wset w1 r (true, eI 18 h)).2 c = some (true, oW t v2 bn) := by rw [wset_n hcr]; exact kC
  have hSi : (wset w1 r (true, eI 18 h)).2 s = some (true, eI 18 g) := by rw [wset_n (Ne.symm hrs)]; exact kS
  have hTi : (wset w1 r (true, eI 18 h)).2 t = some (true, eI 18 g2) := by rw [wset_n (Ne.symm hrt)]; exact kT
  have J131 : G E X 8 131 [some (.ref a), some (.ref b), some (.ref c), some (iI (e : Int)), some (iI (i : Int)), none, none, none] [] (wset w1 r (true, eI 18 h)) 0 0 := by
    refine g_aload_n C dX5_setProduct_131 rfl ?_
    have J148 : ∀ q : Int, (q = 0 ∨ q = 1) → G E X 8 148 [some (.ref a), some (.ref b), some (.ref c), some (iI (e : Int)), some (iI (i : Int)), none, none, none] [iI q, .ref a] (wset w1 r (true, eI 18 h)) 0 0 := by
      intro q hq
      refine g_put (ci := 7) C rfl inTX5 tyX5 tyX5_ok nmX5 2 (by decide) fl_RX5_13 rfl rfl hOi (Nat.le_of_ble_eq_true rfl) (by rcases hq with q1 | q1 <;> (rw [q1]; rfl)) (by rcases hq with q1 | q1 <;> (rw [q1]; rfl)) dX5_setProduct_148 ?_
      refine g_aload_n C dX5_setProduct_151 rfl ?_
      refine g_iload_n C dX5_setProduct_152 rfl ?_
      refine g_callV C (s_X5_trim _ (p := e) wset_s (by rw [wset_n (Ne.symm hne)]; exact wset_s) hdh he1 hq) (ci := 7) rfl wset_s rfl ml_RX5_30 im_yX5_trim se_RX5_yX5_trim in_RX5 co_yX5_trim hd_X5_trim rfl ⟨by omega, by omega⟩ rfl (Nat.le_of_ble_eq_true rfl) ⟨by omega, by omega⟩ dX5_setProduct_153 (fun v153 w153 hp153 => ?_)
      obtain ⟨rfl, hw9, fr9⟩ := hp153
      exact g_return C hQ dX5_setProduct_156 (Nat.le_refl _) (Nat.le_refl _) ⟨rfl, hw9, ⟨fr9.1.trans fr1.1, fun x k1 k2 => by rw [fr9.2 x k1, wset_n k1, wset_n k2]; exact fr1.2 x k1 k2⟩⟩
    refine g_aload_n C dX5_setProduct_132 rfl ?_
    refine g_get (ci := 7) C rfl inTX5 2 (by decide) fl_RX5_13 rfl hBi rfl dX5_setProduct_133 ?_
    refine g_aload_n C dX5_setProduct_136 rfl ?_
    refine g_get (ci := 7) C rfl inTX5 2 (by decide) fl_RX5_13 rfl hCi rfl dX5_setProduct_137 ?_
    refine g_icmp_eq (tgt := 147) C dX5_setProduct_140 (by decide) (by omega) (by omega) (fun h140 => ?_) (fun h140 => ?_)
    · refine g_iconst C dX5_setProduct_147 ?_
      exact J148 _ (by omega)
    · refine g_iconst C dX5_setProduct_143 ?_
      refine g_goto (tgt := 148) C dX5_setProduct_144 (by decide) ?_
      exact J148 _ (by omega)
  refine g_iload C dX5_setProduct_22 rfl ?_
  refine g_aload_n C dX5_setProduct_24 rfl ?_
  refine g_get (ci := 7) C rfl inTX5 1 (by decide) fl_RX5_17 rfl hBi rfl dX5_setProduct_25 ?_
  refine g_icmp_ge (tgt := 131) C dX5_setProduct_28 (by decide) (by omega) (by omega) (fun h28 => ?_) (fun h28 => ?_)
  · exact J131
  · refine g_iload C dX5_setProduct_31 rfl ?_
    refine g_iload_n C dX5_setProduct_33 rfl ?_
    refine g_icmp_ge (tgt := 131) C dX5_setProduct_34 (by decide) (by omega) (by omega) (fun h34 => ?_) (fun h34 => ?_)
    · exact J131
    · refine g_lconst (z := 0) C dX5_setProduct_37 (by decide) ?_
      refine g_lstore C dX5_setProduct_38 (by decide) rfl ?_
      refine g_iconst C dX5_setProduct_40 ?_
      refine g_istore C dX5_setProduct_41 (by decide) rfl ?_
      refine g_loop (σ := Nat × Int × (Nat → Int)) (fun q => q.1 ≤ 19 ∧ (0 ≤ q.2.1 ∧ q.2.1 < 68719476736) ∧ DC q.2.2) (fun q => G E X 8 43 [some (.ref a), some (.ref b), some (.ref c), some (iI (e : Int)), some (iI (i : Int)), some (jJ q.2.1), none, some (iI (q.1 : Int))] [] (wset w1 r (true, eI 18 q.2.2)) 0 0) (fun q => 19 - q.1) ?_ (0, 0, h) ⟨by dsimp only; omega, by dsimp only; omega, hdh⟩
      clear hOi hBi hCi hSi hTi
      rintro ⟨j, cy, k⟩ hq ih2
      obtain ⟨hj, hcy, hdk⟩ := hq
      dsimp only at hj hcy hdk ⊢
      have hOk : (wset w1 r (true, eI 18 k)).2 a = some (true, eO 7 [.ref r, iI 0, iI 0]) := by rw [wset_n hne]; exact hO1
      have hBk : (wset w1 r (true, eI 18 k)).2 b = some (true, oW s v bm) := by rw [wset_n hbr]; exact kB
      have hCk : (wset w1 r (true, eI 18 k)).2 c = some (true, oW t v2 bn) := by rw [wset_n hcr]; exact kC
      have hSk : (wset w1 r (true, eI 18 k)).2 s = some (true, eI 18 g) := by rw [wset_n (Ne.symm hrs)]; exact kS
      have hTk : (wset w1 r (true, eI 18 k)).2 t = some (true, eI 18 g2) := by rw [wset_n (Ne.symm hrt)]; exact kT
      refine g_iload C dX5_setProduct_43 rfl ?_
      refine g_aload_n C dX5_setProduct_45 rfl ?_
      refine g_get (ci := 7) C rfl inTX5 1 (by decide) fl_RX5_17 rfl hCk rfl dX5_setProduct_46 ?_
      refine g_icmp_gt (tgt := 125) C dX5_setProduct_49 (by decide) (by omega) (by omega) (fun h49 => ?_) (fun h49 => ?_)
      · refine g_iinc C dX5_setProduct_125 rfl (by decide) rfl ?_
        refine g_goto (tgt := 22) C dX5_setProduct_128 (by decide) ?_
        refine g_drop 7 ?_
        refine g_drop 5 ?_
        exact ih (i + 1, k) ⟨by dsimp only; omega, hdk⟩ (by dsimp only; omega)
      · refine g_iload C dX5_setProduct_52 rfl ?_
        refine g_iload C dX5_setProduct_54 rfl ?_
        refine g_iadd C dX5_setProduct_56 ?_
        refine g_iload_n C dX5_setProduct_57 rfl ?_
        refine g_icmp_ge (tgt := 125) C dX5_setProduct_58 (by decide) (by omega) (by omega) (fun h58 => ?_) (fun h58 => ?_)
        · refine g_iinc C dX5_setProduct_125 rfl (by decide) rfl ?_
          refine g_goto (tgt := 22) C dX5_setProduct_128 (by decide) ?_
          refine g_drop 7 ?_
          refine g_drop 5 ?_
          exact ih (i + 1, k) ⟨by dsimp only; omega, hdk⟩ (by dsimp only; omega)
        · have hkj := hdk (i + j) (by omega)
          have hgi := hg i (by omega)
          have hgj := hg2 j (by omega)
          have hmb : 0 ≤ g i * g2 j ∧ g i * g2 j ≤ 268435456 * 268435456 := ⟨Int.mul_nonneg hgi.1 hgj.1, Int.mul_le_mul (by omega) (by omega) hgj.1 (by decide)⟩
          have hm28 := mod28 (cy + (k (i + j) + g i * g2 j))
          obtain ⟨z116, hz116, hz116a, hz116b⟩ := ushr28 (cy + (k (i + j) + g i * g2 j))
          refine g_lload C dX5_setProduct_61 rfl ?_
          refine g_aload_n C dX5_setProduct_63 rfl ?_
          refine g_get (ci := 7) C rfl inTX5 0 (by decide) fl_RX5_9 rfl hOk rfl dX5_setProduct_64 ?_
          refine g_iload C dX5_setProduct_67 rfl ?_
          refine g_iload C dX5_setProduct_69 rfl ?_
          refine g_iadd C dX5_setProduct_71 ?_
          rw [show (i : Int) + (j : Int) = ((i + j : Nat) : Int) by omega]
          refine g_ialoadN (i + j) C wset_s (by omega) (by omega) dX5_setProduct_72 ?_
          refine g_i2l C dX5_setProduct_73 (by omega) ?_
          refine g_aload_n C dX5_setProduct_74 rfl ?_
          refine g_get (ci := 7) C rfl inTX5 0 (by decide) fl_RX5_9 rfl hBk rfl dX5_setProduct_75 ?_
          refine g_iload C dX5_setProduct_78 rfl ?_
          refine g_ialoadN (i) C hSk (by omega) (by omega) dX5_setProduct_80 ?_
          refine g_i2l C dX5_setProduct_81 (by omega) ?_
          refine g_aload_n C dX5_setProduct_82 rfl ?_
          refine g_get (ci := 7) C rfl inTX5 0 (by decide) fl_RX5_9 rfl hCk rfl dX5_setProduct_83 ?_
          refine g_iload C dX5_setProduct_86 rfl ?_
          refine g_ialoadN (j) C hTk (by omega) (by omega) dX5_setProduct_88 ?_
          refine g_i2l C dX5_setProduct_89 (by omega) ?_
          refine g_lmul C dX5_setProduct_90 ?_
          refine g_ladd C dX5_setProduct_91 ?_
          refine g_ladd C dX5_setProduct_92 ?_
          refine g_lstore C dX5_setProduct_93 (by decide) rfl ?_
          refine g_aload_n C dX5_setProduct_95 rfl ?_
          refine g_get (ci := 7) C rfl inTX5 0 (by decide) fl_RX5_9 rfl hOk rfl dX5_setProduct_96 ?_
          refine g_iload C dX5_setProduct_99 rfl ?_
          refine g_iload C dX5_setProduct_101 rfl ?_
          refine g_iadd C dX5_setProduct_103 ?_
          rw [show (i : Int) + (j : Int) = ((i + j : Nat) : Int) by omega]
          refine g_lload C dX5_setProduct_104 rfl ?_
          refine g_ldc2 (z := 268435455) C kj_RX5_28 (by decide) dX5_setProduct_106 ?_
          refine g_land (z := (cy + (k (i + j) + g i * g2 j)) % B28) C dX5_setProduct_109 (j_mask 28 (by omega) mask28) ?_
          refine g_l2i C dX5_setProduct_110 ?_
          refine g_iastoreN (i + j) C wset_s (by omega) (by omega) dX5_setProduct_111 ?_
          rw [wset_set]
          refine g_lload C dX5_setProduct_112 rfl ?_
          refine g_bipush C dX5_setProduct_114 (by decide) ?_
          refine g_lushr (z := z116) C dX5_setProduct_116 hz116 ?_
          refine g_lstore C dX5_setProduct_117 (by decide) rfl ?_
          refine g_iinc C dX5_setProduct_119 rfl (by decide) rfl ?_
          refine g_goto (tgt := 43) C dX5_setProduct_122 (by decide) ?_
          exact ih2 (j + 1, z116, iup k (i + j) ((cy + (k (i + j) + g i * g2 j)) % B28)) ⟨by dsimp only; omega, by dsimp only; omega, hdk.up _ hm28⟩ (by dsimp only; omega)
/-! the class's numbers with values: more of them -/
theorem mulS_step {B : Int} (hB : 0 < B) {h f : Nat → Int} {j : Nat} {c y m s : Int} (e : nv B h j + c * B ^ j = nv B f j * y + m) (hs : s = c + f j * y) : nv B (iup h j (s % B)) (j + 1) + s / B * B ^ (j + 1) = nv B f (j + 1) * y + m := by
  rw [nv_up_succ, nv_succ, Int.pow_succ]
  have e2 : s = B * (s / B) + s % B := (Int.mul_ediv_add_emod s B).symm
  generalize s / B = q at e2 ⊢
  generalize s % B = r at e2 ⊢
  grind
set_option maxHeartbeats 4000000 in
set_option maxRecDepth 100000 in
theorem v_X5_multiplySmall (l : Launch) {E : GE} {w : Wd} {a r : Nat} {f : Nat → Int} {u : Nat} {bl : Int} (h1 : RA w a r f u bl) {by_ mo : Int} (hby : 0 ≤ by_ ∧ by_ ≤ 1000) (hmo : 0 ≤ mo ∧ mo ≤ 1000) (hbd : V18 f * by_ + mo < B28 ^ 18) : Sp E l yX5_multiplySmall cX5_multiplySmall 7 none 1 (0) (0) [.ref a, iI by_, iI mo] w (fun r' w' => r' = none ∧ ∃ f' u', RA w' a r f' u' (if 0 < u' then bl else 0) ∧ V18 f' = V18 f * by_ + mo ∧ FrW w w' a r) := by
  refine sp_intro [some (.ref a), some (iI by_), some (iI mo), none, none, none, none] rfl (Nat.le_of_ble_eq_true rfl) pn_X5 ?_
  intro X C hRm hl hnm hQ
  obtain ⟨hRf, hRl, hRc, hRs⟩ := hRm
  refine g_wf (fun hwf => ?_)
  have hB28 : B28 = 268435456 := rfl
  have hne := h1.ne
  obtain ⟨hO, hR, hf, hbl⟩ := id h1
  have hu18 := hf.2.1
  obtain ⟨e, he1, he2, he3⟩ := mn18 (u + 1)
  refine g_bipush C dX5_multiplySmall_0 (by decide) ?_
  refine g_aload_n C dX5_multiplySmall_2 rfl ?_
  refine g_get (ci := 7) C rfl inTX5 1 (by decide) fl_RX5_17 rfl hO rfl dX5_multiplySmall_3 ?_
  refine g_iconst C dX5_multiplySmall_6 ?_
  refine g_iadd C dX5_multiplySmall_7 ?_
  rw [show (u : Int) + 1 = ((u + 1 : Nat) : Int) by omega]
  refine g_min C ml_RX5_66 (by omega) (by omega) (by omega) (by omega) (Nat.le_of_ble_eq_true rfl) (by omega) dX5_multiplySmall_8 ?_
  rw [he3]
  refine g_istore_n C dX5_multiplySmall_11 (by decide) rfl ?_
  refine g_iload_n C dX5_multiplySmall_12 rfl ?_
  refine g_i2l C dX5_multiplySmall_13 (by omega) ?_
  refine g_lstore C dX5_multiplySmall_14 (by decide) rfl ?_
  refine g_iconst C dX5_multiplySmall_16 ?_
  refine g_istore C dX5_multiplySmall_17 (by decide) rfl ?_
  suffices hh : G E X 7 19 [some (.ref a), some (iI by_), some (iI mo), some (iI (e : Int)), some (jJ mo), none, some (iI ((0 : Nat) : Int))] [] (wset w r (true, eI 18 f)) 0 0 by rw [wset_id hR] at hh; exact hh
  refine g_loop (σ := Nat × Int × (Nat → Int)) (fun t => t.1 ≤ e ∧ (0 ≤ t.2.1 ∧ t.2.1 ≤ 1000) ∧ (u < t.1 → t.2.1 = 0) ∧ DC t.2.2 ∧ (∀ i, t.1 ≤ i → t.2.2 i = f i) ∧ nv B28 t.2.2 t.1 + t.2.1 * B28 ^ t.1 = nv B28 f t.1 * by_ + mo) (fun t => G E X 7 19 [some (.ref a), some (iI by_), some (iI mo), some (iI (e : Int)), some (jJ t.2.1), none, some (iI (t.1 : Int))] [] (wset w r (true, eI 18 t.2.2)) 0 0) (fun t => e - t.1) ?_ (0, mo, f) ⟨Nat.zero_le _, hmo, fun h => absurd h (Nat.not_lt_zero _), hf.1, fun i _ => rfl, by show (0 : Int) + mo * B28 ^ 0 = 0 * by_ + mo; rw [Int.pow_zero, Int.mul_one, Int.zero_mul]⟩
  rintro ⟨j, c, h⟩ hq ih
  obtain ⟨hj, hc, hcu, hdh, hhi, hv⟩ := hq
  dsimp only at hj hc hcu hdh hhi hv ⊢
  have hOk : (wset w r (true, eI 18 h)).2 a = some (true, oW r u bl) := by rw [wset_n hne]; exact hO
  refine g_iload C dX5_multiplySmall_19 rfl ?_
  refine g_iload_n C dX5_multiplySmall_21 rfl ?_
  refine g_icmp_ge (tgt := 68) C dX5_multiplySmall_22 (by decide) (by omega) (by omega) (fun h22 => ?_) (fun h22 => ?_)
  · have ej : j = e := by omega
    subst ej
    have hc0 : c = 0 := by
      rcases he2 with ⟨k1, k2⟩ | ⟨k1, k2⟩
      · exact hcu (by omega)
      · rcases Nat.lt_or_ge u 18 with k3 | k3
        · exact hcu (by omega)
        · have hn0 := nv_nonneg (B := B28) (by decide) (hdh.dg he1)
          subst k1
          unfold V18 at hbd
          rcases Int.lt_or_le 0 c with k4 | k4
          · have k5 : 1 * B28 ^ 18 ≤ c * B28 ^ 18 := Int.mul_le_mul_of_nonneg_right k4 (by decide)
            omega
          · omega
    rw [hc0, Int.zero_mul, Int.add_zero] at hv
    have hz : ∀ i, j ≤ i → i < 18 → h i = 0 := fun i h3 h4 => by
      rw [hhi i h3]
      exact hf.2.2.1 i (by omega) h4
    have hV : V18 h = V18 f * by_ + mo := by
      rw [show V18 h = nv B28 h j from nv_zeros he1 hz, hv, show V18 f = nv B28 f j from nv_zeros he1 (fun i h3 h4 => hf.2.2.1 i (by omega) h4)]
    refine g_aload_n C dX5_multiplySmall_68 rfl ?_
    refine g_iload_n C dX5_multiplySmall_69 rfl ?_
    refine g_callV C (c_X5_trim _ (p := j) hOk wset_s hdh he1 hz hbl) (ci := 7) rfl hOk rfl ml_RX5_30 im_yX5_trim se_RX5_yX5_trim in_RX5 co_yX5_trim hd_X5_trim rfl ⟨by omega, by omega⟩ rfl (Nat.le_of_ble_eq_true rfl) ⟨by omega, by omega⟩ dX5_multiplySmall_70 (fun v70 w70 hp70 => ?_)
    obtain ⟨rfl, u', hw9, hO9, fr9⟩ := hp70
    exact g_return C hQ dX5_multiplySmall_73 (Nat.le_refl _) (Nat.le_refl _) ⟨rfl, h, u', ⟨hO9, by rw [fr9.2 r (Ne.symm hne)]; exact wset_s, hw9, by split <;> omega⟩, hV, ⟨fr9.1, fun x h3 h4 => by rw [fr9.2 x h3, wset_n h4]⟩⟩
  · have hfk := hf.1 j (by omega)
    have hmb : 0 ≤ f j * by_ ∧ f j * by_ ≤ 268435455 * 1000 := ⟨Int.mul_nonneg hfk.1 hby.1, Int.mul_le_mul (by omega) hby.2 hby.1 (by decide)⟩
    have hm28 := mod28 (c + f j * by_)
    have hd28e : (c + f j * by_) / B28 = (c + f j * by_) / 268435456 := rfl
    have hu0 : u ≤ j → f j = 0 := fun q => hf.2.2.1 j q (by omega)
    refine g_lload C dX5_multiplySmall_25 rfl ?_
    refine g_aload_n C dX5_multiplySmall_27 rfl ?_
    refine g_get (ci := 7) C rfl inTX5 0 (by decide) fl_RX5_9 rfl hOk rfl dX5_multiplySmall_28 ?_
    refine g_iload C dX5_multiplySmall_31 rfl ?_
    refine g_ialoadN (j) C wset_s (by omega) (by omega) dX5_multiplySmall_33 ?_
    rw [hhi j (Nat.le_refl _)]
    refine g_i2l C dX5_multiplySmall_34 (by omega) ?_
    refine g_iload_n C dX5_multiplySmall_35 rfl ?_
    refine g_i2l C dX5_multiplySmall_36 (by omega) ?_
    refine g_lmul C dX5_multiplySmall_37 ?_
    refine g_ladd C dX5_multiplySmall_38 ?_
    refine g_lstore C dX5_multiplySmall_39 (by decide) rfl ?_
    refine g_aload_n C dX5_multiplySmall_41 rfl ?_
    refine g_get (ci := 7) C rfl inTX5 0 (by decide) fl_RX5_9 rfl hOk rfl dX5_multiplySmall_42 ?_
    refine g_iload C dX5_multiplySmall_45 rfl ?_
    refine g_lload C dX5_multiplySmall_47 rfl ?_
    refine g_ldc2 (z := 268435455) C kj_RX5_28 (by decide) dX5_multiplySmall_49 ?_
    refine g_land (z := (c + f j * by_) % B28) C dX5_multiplySmall_52 (j_mask 28 (by omega) mask28) ?_
    refine g_l2i C dX5_multiplySmall_53 ?_
    refine g_iastoreN (j) C wset_s (by omega) (by omega) dX5_multiplySmall_54 ?_
    rw [wset_set]
    refine g_lload C dX5_multiplySmall_55 rfl ?_
    refine g_bipush C dX5_multiplySmall_57 (by decide) ?_
    refine g_lushr (z := (c + f j * by_) / B28) C dX5_multiplySmall_59 (j_ushr 28 (by omega) (by omega) (by decide)) ?_
    refine g_lstore C dX5_multiplySmall_60 (by decide) rfl ?_
    refine g_iinc C dX5_multiplySmall_62 rfl (by decide) rfl ?_
    refine g_goto (tgt := 19) C dX5_multiplySmall_65 (by decide) ?_
    exact ih (j + 1, (c + f j * by_) / B28, iup h j ((c + f j * by_) % B28)) ⟨by dsimp only; omega, by dsimp only; omega, fun q => by
      dsimp only at q ⊢
      by_cases q2 : u = j
      · rw [hu0 (by omega), Int.zero_mul, Int.add_zero, hB28]; omega
      · rw [hcu (by omega), hu0 (by omega), Int.zero_mul]; rfl, hdh.up _ hm28, fun i h3 => by dsimp only at h3 ⊢; rw [iup_n (by omega)]; exact hhi i (by omega), mulS_step (by decide) hv rfl⟩ (by dsimp only; omega)
set_option maxHeartbeats 4000000 in
set_option maxRecDepth 100000 in
theorem v_X5_divideSmall (l : Launch) {E : GE} {w : Wd} {a r : Nat} {f : Nat → Int} {u : Nat} {bl : Int} (h1 : RA w a r f u bl) {y : Int} (hy : 1 ≤ y ∧ y ≤ 1000) : Sp E l yX5_divideSmall cX5_divideSmall 7 (some .int) 1 (0) (0) [.ref a, iI y] w (fun r' w' => ∃ d : Int, r' = some (iI d) ∧ 0 ≤ d ∧ d < y ∧ ∃ f' u', RA w' a r f' u' (if 0 < u' then bl else 0) ∧ V18 f' * y + d = V18 f ∧ FrW w w' a r) := by
  refine sp_intro [some (.ref a), some (iI y), none, none, none, none, none] rfl (Nat.le_of_ble_eq_true rfl) pn_X5 ?_
  intro X C hRm hl hnm hQ
  obtain ⟨hRf, hRl, hRc, hRs⟩ := hRm
  refine g_wf (fun hwf => ?_)
  have hB28 : B28 = 268435456 := rfl
  have hne := h1.ne
  obtain ⟨hO, hR, hf, hbl⟩ := id h1
  have hu18 := hf.2.1
  obtain ⟨e, he1, he2, he3⟩ := mn18 u
  have heu : e = u := by omega
  subst heu
  refine g_iload_n C dX5_divideSmall_0 rfl ?_
  refine g_iconst C dX5_divideSmall_1 ?_
  refine g_icmp_ge (tgt := 7) C dX5_divideSmall_2 (by decide) (by omega) (by omega) (fun h2 => ?_) (fun h2 => ?_)
  · refine g_lconst (z := 0) C dX5_divideSmall_7 (by decide) ?_
    refine g_lstore_n C dX5_divideSmall_8 (by decide) rfl ?_
    refine g_bipush C dX5_divideSmall_9 (by decide) ?_
    refine g_aload_n C dX5_divideSmall_11 rfl ?_
    refine g_get (ci := 7) C rfl inTX5 1 (by decide) fl_RX5_17 rfl hO rfl dX5_divideSmall_12 ?_
    refine g_min C ml_RX5_66 (by omega) (by omega) (by omega) (by omega) (Nat.le_of_ble_eq_true rfl) (by omega) dX5_divideSmall_15 ?_
    rw [he3]
    refine g_iconst C dX5_divideSmall_18 ?_
    refine g_isub C dX5_divideSmall_19 ?_
    refine g_istore C dX5_divideSmall_20 (by decide) rfl ?_
    rw [show (e : Int) - 1 = (e : Int) - 1 - ((0 : Nat) : Int) by omega]
    suffices hh : G E X 7 22 [some (.ref a), some (iI y), some (jJ 0), none, some (iI ((e : Int) - 1 - ((0 : Nat) : Int))), none, none] [] (wset w r (true, eI 18 f)) 0 0 by rw [wset_id hR] at hh; exact hh
    refine g_loop (σ := Nat × Int × (Nat → Int)) (fun t => t.1 ≤ e ∧ (0 ≤ t.2.1 ∧ t.2.1 < y) ∧ DC t.2.2 ∧ (∀ i, i + t.1 < e → t.2.2 i = f i) ∧ (∀ i, e ≤ i → i < 18 → t.2.2 i = 0) ∧ hv B28 t.2.2 e t.1 * y + t.2.1 = hv B28 f e t.1) (fun t => G E X 7 22 [some (.ref a), some (iI y), some (jJ t.2.1), none, some (iI ((e : Int) - 1 - (t.1 : Int))), none, none] [] (wset w r (true, eI 18 t.2.2)) 0 0) (fun t => e - t.1) ?_ (0, 0, f) ⟨Nat.zero_le _, by dsimp only; omega, hf.1, fun i _ => rfl, hf.2.2.1, by show (0 : Int) * y + 0 = 0; omega⟩
    rintro ⟨j, x, h⟩ hq ih
    obtain ⟨hj, hx, hdh, hhi, hz, hvv⟩ := hq
    dsimp only at hj hx hdh hhi hz hvv ⊢
    have hOk : (wset w r (true, eI 18 h)).2 a = some (true, oW r e bl) := by rw [wset_n hne]; exact hO
    refine g_iload C dX5_divideSmall_22 rfl ?_
    refine g_if_lt (tgt := 67) C dX5_divideSmall_24 (by decide) (by omega) (fun h24 => ?_) (fun h24 => ?_)
    · have ej : j = e := by omega
      subst ej
      rw [hv_all, hv_all] at hvv
      have hV : V18 h * y + x = V18 f := by
        rw [show V18 h = nv B28 h j from nv_zeros hu18 hz, show V18 f = nv B28 f j from nv_zeros hu18 hf.2.2.1]
        exact hvv
      refine g_aload_n C dX5_divideSmall_67 rfl ?_
      refine g_aload_n C dX5_divideSmall_68 rfl ?_
      refine g_get (ci := 7) C rfl inTX5 1 (by decide) fl_RX5_17 rfl hOk rfl dX5_divideSmall_69 ?_
      refine g_callV C (c_X5_trim _ (p := j) hOk wset_s hdh hu18 hz hbl) (ci := 7) rfl hOk rfl ml_RX5_30 im_yX5_trim se_RX5_yX5_trim in_RX5 co_yX5_trim hd_X5_trim rfl ⟨by omega, by omega⟩ rfl (Nat.le_of_ble_eq_true rfl) ⟨by omega, by omega⟩ dX5_divideSmall_72 (fun v72 w72 hp72 => ?_)
      obtain ⟨rfl, u', hw9, hO9, fr9⟩ := hp72
      refine g_lload_n C dX5_divideSmall_75 rfl ?_
      refine g_l2i C dX5_divideSmall_76 ?_
      exact g_ireturn C hQ dX5_divideSmall_77 (Nat.le_refl _) (Nat.le_refl _) ⟨x, rfl, hx.1, hx.2, h, u', ⟨hO9, by rw [fr9.2 r (Ne.symm hne)]; exact wset_s, hw9, by split <;> omega⟩, hV, ⟨fr9.1, fun z h3 h4 => by rw [fr9.2 z h3, wset_n h4]⟩⟩
    · have hfk := hf.1 (e - 1 - j) (by omega)
      have hdv := div28 hx hfk
      refine g_lload_n C dX5_divideSmall_27 rfl ?_
      refine g_bipush C dX5_divideSmall_28 (by decide) ?_
      refine g_lshl (z := x * 268435456) C dX5_divideSmall_30 (j_shl28 x) ?_
      refine g_aload_n C dX5_divideSmall_31 rfl ?_
      refine g_get (ci := 7) C rfl inTX5 0 (by decide) fl_RX5_9 rfl hOk rfl dX5_divideSmall_32 ?_
      refine g_iload C dX5_divideSmall_35 rfl ?_
      refine g_ialoadN (e - 1 - j) C wset_s (by omega) (by omega) dX5_divideSmall_37 ?_
      rw [hhi (e - 1 - j) (by omega)]
      refine g_i2l C dX5_divideSmall_38 (by omega) ?_
      refine g_ladd C dX5_divideSmall_39 ?_
      refine g_lstore C dX5_divideSmall_40 (by decide) rfl ?_
      refine g_aload_n C dX5_divideSmall_42 rfl ?_
      refine g_get (ci := 7) C rfl inTX5 0 (by decide) fl_RX5_9 rfl hOk rfl dX5_divideSmall_43 ?_
      refine g_iload C dX5_divideSmall_46 rfl ?_
      refine g_lload C dX5_divideSmall_48 rfl ?_
      refine g_iload_n C dX5_divideSmall_50 rfl ?_
      refine g_i2l C dX5_divideSmall_51 (by omega) ?_
      refine g_ldivN C dX5_divideSmall_52 (by omega) (by omega) ?_
      refine g_l2i C dX5_divideSmall_53 ?_
      refine g_iastoreN (e - 1 - j) C wset_s (by omega) (by omega) dX5_divideSmall_54 ?_
      rw [wset_set]
      refine g_lload C dX5_divideSmall_55 rfl ?_
      refine g_iload_n C dX5_divideSmall_57 rfl ?_
      refine g_i2l C dX5_divideSmall_58 (by omega) ?_
      refine g_lremN C dX5_divideSmall_59 (by omega) (by omega) ?_
      refine g_lstore_n C dX5_divideSmall_60 (by decide) rfl ?_
      refine g_iinc C dX5_divideSmall_61 rfl (by decide) rfl ?_
      refine g_goto (tgt := 22) C dX5_divideSmall_64 (by decide) ?_
      refine g_drop 5 ?_
      rw [show (e : Int) - 1 - (j : Int) + -1 = (e : Int) - 1 - ((j + 1 : Nat) : Int) by omega]
      exact ih (j + 1, (x * 268435456 + f (e - 1 - j)) % y, iup h (e - 1 - j) ((x * 268435456 + f (e - 1 - j)) / y)) ⟨by dsimp only; omega, ⟨hdv.2.2.1, hdv.2.2.2⟩, hdh.up _ ⟨hdv.1, hdv.2.1⟩, fun i h3 => by dsimp only at h3 ⊢; rw [iup_n (by omega)]; exact hhi i (by omega), fun i h3 h4 => by dsimp only; rw [iup_n (by omega)]; exact hz i h3 h4, div_step (by omega) hvv (by
        have e9 := Int.mul_ediv_add_emod (x * 268435456 + f (e - 1 - j)) y
        rw [Int.mul_comm y] at e9
        exact e9.symm)⟩ (by dsimp only; omega)
  · omega
