/-! a whole number as a row: its sign first, then thirty binary digits a place -/
abbrev B30 : Int := 1073741824
def mgf (f : Nat → Int) : Nat → Int := fun i => f (i + 1)
def mg (f : Nat → Int) (n : Nat) : Int := nv B30 (mgf f) (n - 1)
/-- digits alone: no places ahead that are 0 are asked for -/
def DG (f : Nat → Int) (n : Nat) : Prop := ∀ i, 1 ≤ i → i < n → 0 ≤ f i ∧ f i < 1073741824
def BN (f : Nat → Int) (n : Nat) (z : Int) : Prop := 1 ≤ n ∧ DG f n ∧ z = f 0 * mg f n ∧ (n = 1 ∧ f 0 = 0 ∨ 1 < n ∧ f (n - 1) ≠ 0 ∧ (f 0 = 1 ∨ f 0 = -1))
theorem DG.dg {f : Nat → Int} {n : Nat} (h : DG f n) : dg B30 (mgf f) (n - 1) := fun i hi => h (i + 1) (by omega) (by omega)
theorem mg_nonneg {f : Nat → Int} {n : Nat} (h : DG f n) : 0 ≤ mg f n := nv_nonneg (by decide) h.dg
theorem mg_cut {f g : Nat → Int} {m n : Nat} (hm : 1 ≤ m) (hmn : m ≤ n) (hz : ∀ i, m ≤ i → i < n → f i = 0) (hg : ∀ i, 1 ≤ i → i < m → g i = f i) : mg g m = mg f n := by
  unfold mg
  rw [nv_congr (f := mgf g) (g := mgf f) (n := m - 1) (fun i hi => hg (i + 1) (by omega) (by omega))]
  exact (nv_zeros (by omega) (fun i h1 h2 => hz (i + 1) (by omega) (by omega))).symm
theorem mg_pos {f : Nat → Int} {n : Nat} (h : DG f n) (hn : 1 < n) (h0 : f (n - 1) ≠ 0) : 0 < mg f n := by
  have e : n - 1 = (n - 2) + 1 := by omega
  unfold mg
  rw [e]
  have := nv_top (B := B30) (f := mgf f) (n := n - 2) (by decide) (by have := h.dg; rwa [e] at this) (by show f (n - 2 + 1) ≠ 0; rw [← e]; exact h0)
  have p := pw_pos (B := B30) (by decide) (n - 2)
  omega
/-- what cut makes -/
theorem BN.cut {f g : Nat → Int} {m n : Nat} {s : Int} (hd : DG f n) (hm : 1 ≤ m) (hmn : m ≤ n) (hz : ∀ i, m ≤ i → i < n → f i = 0) (ht : 1 < m → f (m - 1) ≠ 0) (hg : ∀ i, 1 ≤ i → i < m → g i = f i) (h0 : g 0 = if m = 1 then 0 else s) (hs : m = 1 ∨ s = 1 ∨ s = -1) : BN g m (s * mg f n) := by
  have e := mg_cut hm hmn hz hg
  refine ⟨hm, fun i h1 h2 => by rw [hg i h1 h2]; exact hd i h1 (by omega), ?_, ?_⟩
  · by_cases q : m = 1
    · rw [h0, if_pos q, Int.zero_mul]
      subst q
      have : mg f n = 0 := by rw [← e]; rfl
      rw [this, Int.mul_zero]
    · rw [h0, if_neg q, e]
  · by_cases q : m = 1
    · exact Or.inl ⟨q, by rw [h0, if_pos q]⟩
    · refine Or.inr ⟨by omega, ?_, ?_⟩
      · rw [hg (m - 1) (by omega) (by omega)]; exact ht (by omega)
      · rw [h0, if_neg q]
        rcases hs with q' | q' | q'
        · exact absurd q' q
        · exact Or.inl q'
        · exact Or.inr q'
/-- a fresh or an old number in a world that has grown -/
def NP (A : List Nat) (w : Wd) (z : Int) (cap : Nat) : Option Value → Wd → Prop := fun r w' => ∃ (q m : Nat) (f : Nat → Int), r = some (.ref q) ∧ w'.2 q = some (true, eI m f) ∧ BN f m z ∧ m ≤ cap ∧ Ex w w' ∧ (w.1 ≤ q ∨ q ∈ A)
theorem i_m1 (x : Int) : x + -1 = x - 1 := rfl
