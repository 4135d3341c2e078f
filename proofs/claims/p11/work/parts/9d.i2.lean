/-! calls that change walks and splits: both sides -/
theorem iI_inj {a b : Int} (h : iI a = iI b) (ha : -2147483648 ≤ a ∧ a < 2147483648) (hb : -2147483648 ≤ b ∧ b < 2147483648) : a = b := (i_eq ha hb).mp (by injection h)
def OV (w : Wd) (o : Nat) (nv : Int) : Prop := ∃ s : Value, w.2 o = some (true, eO 9 [jJ nv, s])
theorem OV.u {w : Wd} {o : Nat} {nv : Int} (h : OV w o nv) : OU w o := ⟨nv, h⟩
def BZ (τ ad : Nat → Nat) (o : Nat) (w w1 : Wd) (bs1 ss1 : Nat → Int) (pb1 : Nat → PT) (P1 Q1 : Nat → Nat) (ct1 : Nat → Int) : Prop := (∃ pb2 : Nat → PT, (∀ j, j < 3 → pb2 j = pb1 j) ∧ CS τ ad w1 bs1 ss1 pb2 P1 Q1 ct1) ∧ KM τ w w1
theorem bz_same {τ ad : Nat → Nat} {w w' : Wd} {o : Nat} {bs ss : Nat → Int} {pb : Nat → PT} {P Q : Nat → Nat} {ct : Nat → Int} (hC : CS τ ad w bs ss pb P Q ct) (h1 : w.1 ≤ w'.1) (h2 : w'.2 = w.2) : BZ τ ad o w w' bs ss pb P Q ct := ⟨⟨pb, fun _ _ => rfl, hC.big h1 h2⟩, (KO.big h1 h2).km⟩
theorem bz_set {τ ad : Nat → Nat} {w u : Wd} {o : Nat} {bs ss : Nat → Int} {pb : Nat → PT} {P Q : Nat → Nat} {ct : Nat → Int} (hC : CS τ ad u bs ss pb P Q ct) (hk : KO τ w u) (ho : τ o = 199) (e : WdE) : BZ τ ad o w (wset u o e) bs ss pb P Q ct := ⟨⟨pb, fun _ _ => rfl, hC.out ho e⟩, hk.km.out ho e⟩
theorem rl_w {bs ss : Nat → Int} {pb : Nat → PT} {P Q : Nat → Nat} {ct ct1 ba st pm le ri cm cm1 : Nat → Int} {sp : Nat → Nat → Int} (hr : RLx bs ss pb P Q ct ba st pm le ri sp cm) (h4 : ∀ i, i < 5 → ct1 i = cm1 i) (i : Nat) (b s : Int) : RLx (iup bs i b) (iup ss i s) pb P Q ct1 (iup ba i b) (iup st i s) pm le ri sp cm1 :=
  ⟨fun j hj => by
    obtain ⟨x, y, z⟩ := hr.1 j hj
    by_cases q : j = i
    · subst q; rw [iup_s, iup_s, iup_s, iup_s]; exact ⟨rfl, rfl, z⟩
    · rw [iup_n q, iup_n q, iup_n q, iup_n q]; exact ⟨x, y, z⟩, hr.2.1, h4⟩
theorem rl_ws {bs ss : Nat → Int} {pb : Nat → PT} {P Q : Nat → Nat} {ct ct1 ba st pm le ri cm cm1 : Nat → Int} {sp : Nat → Nat → Int} (hr : RLx bs ss pb P Q ct ba st pm le ri sp cm) (h4 : ∀ i, i < 5 → ct1 i = cm1 i) (i : Nat) (s : Int) : RLx bs (iup ss i s) pb P Q ct1 ba (iup st i s) pm le ri sp cm1 :=
  ⟨fun j hj => by
    obtain ⟨x, y, z⟩ := hr.1 j hj
    by_cases q : j = i
    · subst q; rw [iup_s, iup_s]; exact ⟨x, rfl, z⟩
    · rw [iup_n q, iup_n q]; exact ⟨x, y, z⟩, hr.2.1, h4⟩
theorem rl_c {bs ss : Nat → Int} {pb : Nat → PT} {P Q : Nat → Nat} {ct ct1 ba st pm le ri cm cm1 : Nat → Int} {sp : Nat → Nat → Int} (hr : RLx bs ss pb P Q ct ba st pm le ri sp cm) (h4 : ∀ i, i < 5 → ct1 i = cm1 i) : RLx bs ss pb P Q ct1 ba st pm le ri sp cm1 := ⟨hr.1, hr.2.1, h4⟩
theorem rl_s {bs ss : Nat → Int} {pb : Nat → PT} {P Q : Nat → Nat} {ct ct1 ba st pm le ri cm cm1 : Nat → Int} {sp : Nat → Nat → Int} (hr : RLx bs ss pb P Q ct ba st pm le ri sp cm) (h4 : ∀ i, i < 5 → ct1 i = cm1 i) {i p k : Nat} {f : Nat → Int} (hf : SpR f p k) : RLx bs ss pb (nup P i p) (nup Q i k) ct1 ba st pm le ri (sup sp i f) cm1 :=
  ⟨fun j hj => by
    obtain ⟨x, y, z⟩ := hr.1 j hj
    unfold sup
    by_cases q : j = i
    · subst q; rw [nup_s, nup_s, if_pos rfl]; exact ⟨x, y, hf⟩
    · rw [nup_n q, nup_n q, if_neg q]; exact ⟨x, y, z⟩, hr.2.1, h4⟩
theorem hz_s {sp : Nat → Nat → Int} (h : HZp sp) {i p k : Nat} {f : Nat → Int} (hf : SpR f p k) : HZp (sup sp i f) := fun j hj => by
  unfold sup
  by_cases q : j = i
  · subst q; rw [if_pos rfl]; exact ⟨p, k, hf⟩
  · rw [if_neg q]; exact h j hj
theorem SpR_u {f : Nat → Int} {p k p' k' : Nat} (h : SpR f p k) (g : SpR f p' k') : p = p' ∧ k = k' := by
  have h0 := h.2.1
  have h5 := h.2.2.2.2.2.2
  have g0 := g.2.1
  have g5 := g.2.2.2.2.2.2
  omega
theorem gb_w {ba : Nat → Int} (h : ∀ i, i < 3 → GB (ba i)) {b : Int} (hb : GB b) (j : Nat) : ∀ i, i < 3 → GB (iup ba j b i) := fun i hi => by
  by_cases q : i = j
  · subst q; rw [iup_s]; exact hb
  · rw [iup_n q]; exact h i hi
theorem st_w {st : Nat → Int} (h : ∀ i, i < 3 → 0 ≤ st i ∧ st i ≤ 24) {s : Int} (hs : 0 ≤ s ∧ s ≤ 24) (j : Nat) : ∀ i, i < 3 → 0 ≤ iup st j s i ∧ iup st j s i ≤ 24 := fun i hi => by
  by_cases q : i = j
  · subst q; rw [iup_s]; exact hs
  · rw [iup_n q]; exact h i hi
theorem ctu {ct cm : Nat → Int} (h : ∀ i, i < 5 → ct i = cm i) {j : Nat} (hj : j < 5) : ∀ i, i < 5 → iup ct j (ct j + 1) i = iup cm j (cm j + 1) i := fun i hi => by
  by_cases q : i = j
  · subst q; rw [iup_s, iup_s, h i hi]
  · rw [iup_n q, iup_n q]; exact h i hi
def D_open (vi b : Int) (bs ss ct : Nat → Int) (k nv : Int) (bs1 ss1 ct1 : Nat → Int) : Prop := (¬ (0 ≤ vi ∧ vi ≤ 2) ∧ k = 1 ∧ bs1 = bs ∧ ss1 = ss ∧ ct1 = ct) ∨ ((0 ≤ vi ∧ vi ≤ 2) ∧ ¬ GB b ∧ k = 2 ∧ bs1 = bs ∧ ss1 = ss ∧ ct1 = ct) ∨ ((0 ≤ vi ∧ vi ≤ 2) ∧ GB b ∧ k = 0 ∧ RT b nv ∧ bs1 = iup bs vi.toNat b ∧ ss1 = iup ss vi.toNat 0 ∧ ct1 = iup ct 0 (ct 0 + 1))
def D_forth (vi x : Int) (ss ct : Nat → Int) (k nv : Int) (ss1 ct1 : Nat → Int) : Prop := (¬ (0 ≤ vi ∧ vi ≤ 2) ∧ k = 1 ∧ ss1 = ss ∧ ct1 = ct) ∨ ((0 ≤ vi ∧ vi ≤ 2) ∧ ¬ (1 ≤ x ∧ x ≤ 6) ∧ k = 2 ∧ ss1 = ss ∧ ct1 = ct) ∨ ((0 ≤ vi ∧ vi ≤ 2) ∧ (1 ≤ x ∧ x ≤ 6) ∧ k = 0 ∧ (24 < ss vi.toNat + x ∧ nv = -9 ∧ ss1 = ss ∧ ct1 = iup ct 3 (ct 3 + 1) ∨ ss vi.toNat + x ≤ 24 ∧ nv = ss vi.toNat + x ∧ ss1 = iup ss vi.toNat (ss vi.toNat + x) ∧ ct1 = iup ct 0 (ct 0 + 1)))
def D_back (vi : Int) (ss ct : Nat → Int) (k nv : Int) (ss1 ct1 : Nat → Int) : Prop := (¬ (0 ≤ vi ∧ vi ≤ 2) ∧ k = 1 ∧ ss1 = ss ∧ ct1 = ct) ∨ ((0 ≤ vi ∧ vi ≤ 2) ∧ k = 0 ∧ (ss vi.toNat = 0 ∧ nv = -9 ∧ ss1 = ss ∧ ct1 = iup ct 3 (ct 3 + 1) ∨ 0 < ss vi.toNat ∧ nv = ss vi.toNat - 1 ∧ ss1 = iup ss vi.toNat (ss vi.toNat - 1) ∧ ct1 = iup ct 0 (ct 0 + 1)))
def D_walkCopy (vi vk : Int) (bs ss ct : Nat → Int) (k nv : Int) (bs1 ss1 ct1 : Nat → Int) : Prop := (¬ ((0 ≤ vi ∧ vi ≤ 2) ∧ (0 ≤ vk ∧ vk ≤ 2)) ∧ k = 1 ∧ bs1 = bs ∧ ss1 = ss ∧ ct1 = ct) ∨ (((0 ≤ vi ∧ vi ≤ 2) ∧ (0 ≤ vk ∧ vk ≤ 2)) ∧ k = 0 ∧ nv = bI (bs vi.toNat ≠ bs vk.toNat ∨ ss vi.toNat ≠ ss vk.toNat) ∧ bs1 = iup bs vk.toNat (bs vi.toNat) ∧ ss1 = iup ss vk.toNat (ss vi.toNat) ∧ ct1 = iup ct 0 (ct 0 + 1))
def D_split (vi vn : Int) (P Q : Nat → Nat) (ct : Nat → Int) (k nv : Int) (P1 Q1 : Nat → Nat) (ct1 : Nat → Int) : Prop := (¬ (0 ≤ vi ∧ vi ≤ 2) ∧ k = 1 ∧ P1 = P ∧ Q1 = Q ∧ ct1 = ct) ∨ ((0 ≤ vi ∧ vi ≤ 2) ∧ ¬ (5 ≤ vn ∧ vn ≤ 997) ∧ k = 2 ∧ P1 = P ∧ Q1 = Q ∧ ct1 = ct) ∨ ((0 ≤ vi ∧ vi ≤ 2) ∧ (5 ≤ vn ∧ vn ≤ 997) ∧ k = 0 ∧ (¬ SPb vn.toNat = true ∧ nv = -9 ∧ P1 = P ∧ Q1 = Q ∧ ct1 = iup ct 3 (ct 3 + 1) ∨ SPb vn.toNat = true ∧ nv = ((wit vn.toNat : Nat) : Int) ∧ P1 = nup P vi.toNat vn.toNat ∧ Q1 = nup Q vi.toNat 0 ∧ ct1 = iup ct 2 (ct 2 + 1)))
def D_euclid (vi : Int) (P Q : Nat → Nat) (ct : Nat → Int) (k nv : Int) (Q1 : Nat → Nat) (ct1 : Nat → Int) : Prop := (¬ (0 ≤ vi ∧ vi ≤ 2) ∧ k = 1 ∧ Q1 = Q ∧ ct1 = ct) ∨ ((0 ≤ vi ∧ vi ≤ 2) ∧ k = 0 ∧ ((spS (P vi.toNat) (Q vi.toNat)).2.1 = 0 ∧ nv = -9 ∧ Q1 = Q ∧ ct1 = iup ct 3 (ct 3 + 1) ∨ (spS (P vi.toNat) (Q vi.toNat)).2.1 ≠ 0 ∧ nv = (spS (P vi.toNat) (Q vi.toNat + 1)).2.1 ∧ Q1 = nup Q vi.toNat (Q vi.toNat + 1) ∧ ct1 = iup ct 2 (ct 2 + 1)))
def D_settle (vi : Int) (P Q : Nat → Nat) (ct : Nat → Int) (k nv : Int) (Q1 : Nat → Nat) (ct1 : Nat → Int) : Prop := (¬ (0 ≤ vi ∧ vi ≤ 2) ∧ k = 1 ∧ Q1 = Q ∧ ct1 = ct) ∨ ((0 ≤ vi ∧ vi ≤ 2) ∧ k = 0 ∧ ∃ t : Nat, Q vi.toNat ≤ t ∧ SV (P vi.toNat) t ∧ (∀ j, Q vi.toNat ≤ j → j < t → (spS (P vi.toNat) j).2.1 ≠ 0 ∧ ((P vi.toNat : Nat) : Int) ≤ (spS (P vi.toNat) j).1 * (spS (P vi.toNat) j).1) ∧ ((spS (P vi.toNat) t).2.1 = 0 ∨ (spS (P vi.toNat) t).1 * (spS (P vi.toNat) t).1 < ((P vi.toNat : Nat) : Int)) ∧ nv = ((t - Q vi.toNat : Nat) : Int) ∧ Q1 = nup Q vi.toNat t ∧ ct1 = iup ct 2 (ct 2 + 1))
set_option maxHeartbeats 1000000 in
theorem a_open {τ ad : Nat → Nat} {w w' : Wd} {o : Nat} {bs ss : Nat → Int} {pb : Nat → PT} {P Q : Nat → Nat} {ct : Nat → Int} (hC : CS τ ad w bs ss pb P Q ct) (ho : τ o = 199) (hO : OU w o) {vi b : Int} {r' : Option Value} (h : (¬ ((0 ≤ vi ∧ vi ≤ 2)) ∧ r' = some (iI 1) ∧ w.1 ≤ w'.1 ∧ w'.2 = w.2) ∨ (((0 ≤ vi ∧ vi ≤ 2)) ∧ ¬ (GB b) ∧ r' = some (iI 2) ∧ w.1 ≤ w'.1 ∧ w'.2 = w.2) ∨ (((0 ≤ vi ∧ vi ≤ 2)) ∧ (GB b) ∧ r' = some (iI 0) ∧ ∃ (i : Nat), vi = (i : Int) ∧ ∃ (zz : Int) (uu : Wd) (sv : Value), (-2147483648 ≤ zz ∧ zz < 2147483648) ∧ (∃ r, (some (iI zz)) = some (iI r) ∧ RT b r ∧ CS τ ad uu (iup bs i b) (iup ss i 0) (pb) (P) (Q) (iup ct 0 (ct 0 + 1)) ∧ KO τ w uu) ∧ w' = wset uu o (true, eO 9 [jJ zz, sv]))) : ∃ (k nv : Int) (bs1 ss1 ct1 : Nat → Int), r' = some (iI k) ∧ OV w' o nv ∧ (k = 0 → -2147483648 ≤ nv ∧ nv < 2147483648) ∧ BZ τ ad o w w' bs1 ss1 pb P Q ct1 ∧ D_open vi b bs ss ct k nv bs1 ss1 ct1 := by
  obtain ⟨n0, s0, hO⟩ := hO
  rcases h with h | h | h
  · obtain ⟨hb, rfl, h1, h2⟩ := h
    exact ⟨1, n0, _, _, _, rfl, ⟨s0, by rw [h2]; exact hO⟩, fun h => absurd h (by omega), bz_same hC h1 h2, Or.inl ⟨hb, rfl, rfl, rfl, rfl⟩⟩
  · obtain ⟨hg, hb, rfl, h1, h2⟩ := h
    exact ⟨2, n0, _, _, _, rfl, ⟨s0, by rw [h2]; exact hO⟩, fun h => absurd h (by omega), bz_same hC h1 h2, Or.inr (Or.inl ⟨hg, hb, rfl, rfl, rfl, rfl⟩)⟩
  · obtain ⟨hg, hb, rfl, i, rfl, zz, uu, sv, hz, ⟨r, hzr, hr, hC2, hk2⟩, rfl⟩ := h
    have hr9 := RT_le hb hr
    have e : zz = r := iI_inj (Option.some.inj hzr) hz (by have := hr.1; omega)
    subst e
    exact ⟨0, zz, _, _, _, rfl, ⟨sv, wset_s⟩, fun _ => hz, bz_set hC2 hk2 ho _, Or.inr (Or.inr ⟨hg, hb, rfl, hr, rfl, rfl, rfl⟩)⟩
set_option maxHeartbeats 1000000 in
theorem a_forth {τ ad : Nat → Nat} {w w' : Wd} {o : Nat} {bs ss : Nat → Int} {pb : Nat → PT} {P Q : Nat → Nat} {ct : Nat → Int} (hC : CS τ ad w bs ss pb P Q ct) (ho : τ o = 199) (hO : OU w o) {vi x : Int} {r' : Option Value} (h : (¬ ((0 ≤ vi ∧ vi ≤ 2)) ∧ r' = some (iI 1) ∧ w.1 ≤ w'.1 ∧ w'.2 = w.2) ∨ (((0 ≤ vi ∧ vi ≤ 2)) ∧ ¬ ((1 ≤ x ∧ x ≤ 6)) ∧ r' = some (iI 2) ∧ w.1 ≤ w'.1 ∧ w'.2 = w.2) ∨ (((0 ≤ vi ∧ vi ≤ 2)) ∧ ((1 ≤ x ∧ x ≤ 6)) ∧ r' = some (iI 0) ∧ ∃ (i : Nat), vi = (i : Int) ∧ ∃ (zz : Int) (uu : Wd) (sv : Value), (-2147483648 ≤ zz ∧ zz < 2147483648) ∧ (((24 < ss i + x ∧ (some (iI zz)) = some (iI (-9)) ∧ CS τ ad uu (bs) (ss) (pb) (P) (Q) (iup ct 3 (ct 3 + 1))) ∨ (ss i + x ≤ 24 ∧ (some (iI zz)) = some (iI (ss i + x)) ∧ CS τ ad uu (bs) (iup ss i (ss i + x)) (pb) (P) (Q) (iup ct 0 (ct 0 + 1)))) ∧ KO τ w uu) ∧ w' = wset uu o (true, eO 9 [jJ zz, sv]))) : ∃ (k nv : Int) (ss1 ct1 : Nat → Int), r' = some (iI k) ∧ OV w' o nv ∧ (k = 0 → -2147483648 ≤ nv ∧ nv < 2147483648) ∧ BZ τ ad o w w' bs ss1 pb P Q ct1 ∧ D_forth vi x ss ct k nv ss1 ct1 := by
  obtain ⟨n0, s0, hO⟩ := hO
  rcases h with h | h | h
  · obtain ⟨hb, rfl, h1, h2⟩ := h
    exact ⟨1, n0, _, _, rfl, ⟨s0, by rw [h2]; exact hO⟩, fun h => absurd h (by omega), bz_same hC h1 h2, Or.inl ⟨hb, rfl, rfl, rfl⟩⟩
  · obtain ⟨hg, hb, rfl, h1, h2⟩ := h
    exact ⟨2, n0, _, _, rfl, ⟨s0, by rw [h2]; exact hO⟩, fun h => absurd h (by omega), bz_same hC h1 h2, Or.inr (Or.inl ⟨hg, hb, rfl, rfl, rfl⟩)⟩
  · obtain ⟨hg, hb, rfl, i, rfl, zz, uu, sv, hz, ⟨hp, hk2⟩, rfl⟩ := h
    have hs := (hC.W i (by omega)).2.2
    rcases hp with ⟨g1, g2, hC2⟩ | ⟨g1, g2, hC2⟩
    · have e : zz = -9 := iI_inj (Option.some.inj g2) hz (by omega)
      exact ⟨0, zz, _, _, rfl, ⟨sv, wset_s⟩, fun _ => hz, bz_set hC2 hk2 ho _, Or.inr (Or.inr ⟨hg, hb, rfl, Or.inl ⟨g1, e, rfl, rfl⟩⟩)⟩
    · have e : zz = ss i + x := iI_inj (Option.some.inj g2) hz (by omega)
      exact ⟨0, zz, _, _, rfl, ⟨sv, wset_s⟩, fun _ => hz, bz_set hC2 hk2 ho _, Or.inr (Or.inr ⟨hg, hb, rfl, Or.inr ⟨g1, e, rfl, rfl⟩⟩)⟩
set_option maxHeartbeats 1000000 in
theorem a_back {τ ad : Nat → Nat} {w w' : Wd} {o : Nat} {bs ss : Nat → Int} {pb : Nat → PT} {P Q : Nat → Nat} {ct : Nat → Int} (hC : CS τ ad w bs ss pb P Q ct) (ho : τ o = 199) (hO : OU w o) {vi : Int} {r' : Option Value} (h : (¬ ((0 ≤ vi ∧ vi ≤ 2)) ∧ r' = some (iI 1) ∧ w.1 ≤ w'.1 ∧ w'.2 = w.2) ∨ (((0 ≤ vi ∧ vi ≤ 2)) ∧ r' = some (iI 0) ∧ ∃ (i : Nat), vi = (i : Int) ∧ ∃ (zz : Int) (uu : Wd) (sv : Value), (-2147483648 ≤ zz ∧ zz < 2147483648) ∧ (((ss i = 0 ∧ (some (iI zz)) = some (iI (-9)) ∧ CS τ ad uu (bs) (ss) (pb) (P) (Q) (iup ct 3 (ct 3 + 1))) ∨ (0 < ss i ∧ (some (iI zz)) = some (iI (ss i - 1)) ∧ CS τ ad uu (bs) (iup ss i (ss i - 1)) (pb) (P) (Q) (iup ct 0 (ct 0 + 1)))) ∧ KO τ w uu) ∧ w' = wset uu o (true, eO 9 [jJ zz, sv]))) : ∃ (k nv : Int) (ss1 ct1 : Nat → Int), r' = some (iI k) ∧ OV w' o nv ∧ (k = 0 → -2147483648 ≤ nv ∧ nv < 2147483648) ∧ BZ τ ad o w w' bs ss1 pb P Q ct1 ∧ D_back vi ss ct k nv ss1 ct1 := by
  obtain ⟨n0, s0, hO⟩ := hO
  rcases h with h | h
  · obtain ⟨hb, rfl, h1, h2⟩ := h
    exact ⟨1, n0, _, _, rfl, ⟨s0, by rw [h2]; exact hO⟩, fun h => absurd h (by omega), bz_same hC h1 h2, Or.inl ⟨hb, rfl, rfl, rfl⟩⟩
  · obtain ⟨hg, rfl, i, rfl, zz, uu, sv, hz, ⟨hp, hk2⟩, rfl⟩ := h
    have hs := (hC.W i (by omega)).2.2
    rcases hp with ⟨g1, g2, hC2⟩ | ⟨g1, g2, hC2⟩
    · have e : zz = -9 := iI_inj (Option.some.inj g2) hz (by omega)
      exact ⟨0, zz, _, _, rfl, ⟨sv, wset_s⟩, fun _ => hz, bz_set hC2 hk2 ho _, Or.inr ⟨hg, rfl, Or.inl ⟨g1, e, rfl, rfl⟩⟩⟩
    · have e : zz = ss i - 1 := iI_inj (Option.some.inj g2) hz (by omega)
      exact ⟨0, zz, _, _, rfl, ⟨sv, wset_s⟩, fun _ => hz, bz_set hC2 hk2 ho _, Or.inr ⟨hg, rfl, Or.inr ⟨g1, e, rfl, rfl⟩⟩⟩
set_option maxHeartbeats 1000000 in
theorem a_walkCopy {τ ad : Nat → Nat} {w w' : Wd} {o : Nat} {bs ss : Nat → Int} {pb : Nat → PT} {P Q : Nat → Nat} {ct : Nat → Int} (hC : CS τ ad w bs ss pb P Q ct) (ho : τ o = 199) (hO : OU w o) {vi vk : Int} {r' : Option Value} (h : (¬ ((0 ≤ vi ∧ vi ≤ 2) ∧ (0 ≤ vk ∧ vk ≤ 2)) ∧ r' = some (iI 1) ∧ w.1 ≤ w'.1 ∧ w'.2 = w.2) ∨ (((0 ≤ vi ∧ vi ≤ 2) ∧ (0 ≤ vk ∧ vk ≤ 2)) ∧ r' = some (iI 0) ∧ ∃ (i : Nat) (k : Nat), vi = (i : Int) ∧ vk = (k : Int) ∧ ∃ (zz : Int) (uu : Wd) (sv : Value), (-2147483648 ≤ zz ∧ zz < 2147483648) ∧ ((some (iI zz)) = some (iI (bI (bs i ≠ bs k ∨ ss i ≠ ss k))) ∧ CS τ ad uu (iup bs k (bs i)) (iup ss k (ss i)) (pb) (P) (Q) (iup ct 0 (ct 0 + 1)) ∧ KO τ w uu) ∧ w' = wset uu o (true, eO 9 [jJ zz, sv]))) : ∃ (k nv : Int) (bs1 ss1 ct1 : Nat → Int), r' = some (iI k) ∧ OV w' o nv ∧ (k = 0 → -2147483648 ≤ nv ∧ nv < 2147483648) ∧ BZ τ ad o w w' bs1 ss1 pb P Q ct1 ∧ D_walkCopy vi vk bs ss ct k nv bs1 ss1 ct1 := by
  obtain ⟨n0, s0, hO⟩ := hO
  rcases h with h | h
  · obtain ⟨hb, rfl, h1, h2⟩ := h
    exact ⟨1, n0, _, _, _, rfl, ⟨s0, by rw [h2]; exact hO⟩, fun h => absurd h (by omega), bz_same hC h1 h2, Or.inl ⟨hb, rfl, rfl, rfl, rfl⟩⟩
  · obtain ⟨hg, rfl, i, j, rfl, rfl, zz, uu, sv, hz, ⟨hp, hC2, hk2⟩, rfl⟩ := h
    have e : zz = _ := iI_inj (Option.some.inj hp) hz (by have := bI_01 (bs i ≠ bs j ∨ ss i ≠ ss j); omega)
    exact ⟨0, zz, _, _, _, rfl, ⟨sv, wset_s⟩, fun _ => hz, bz_set hC2 hk2 ho _, Or.inr ⟨hg, rfl, e, rfl, rfl, rfl⟩⟩
set_option maxHeartbeats 1000000 in
theorem a_split {τ ad : Nat → Nat} {w w' : Wd} {o : Nat} {bs ss : Nat → Int} {pb : Nat → PT} {P Q : Nat → Nat} {ct : Nat → Int} (hC : CS τ ad w bs ss pb P Q ct) (ho : τ o = 199) (hO : OU w o) {vi vn : Int} {r' : Option Value} (h : (¬ ((0 ≤ vi ∧ vi ≤ 2)) ∧ r' = some (iI 1) ∧ w.1 ≤ w'.1 ∧ w'.2 = w.2) ∨ (((0 ≤ vi ∧ vi ≤ 2)) ∧ ¬ ((5 ≤ vn ∧ vn ≤ 997)) ∧ r' = some (iI 2) ∧ w.1 ≤ w'.1 ∧ w'.2 = w.2) ∨ (((0 ≤ vi ∧ vi ≤ 2)) ∧ ((5 ≤ vn ∧ vn ≤ 997)) ∧ r' = some (iI 0) ∧ ∃ (i : Nat) (n : Nat), vi = (i : Int) ∧ vn = (n : Int) ∧ ∃ (zz : Int) (uu : Wd) (sv : Value), (-2147483648 ≤ zz ∧ zz < 2147483648) ∧ (((¬ SPb n = true ∧ (some (iI zz)) = some (iI (-9)) ∧ CS τ ad uu (bs) (ss) (pb) (P) (Q) (iup ct 3 (ct 3 + 1))) ∨ (SPb n = true ∧ (some (iI zz)) = some (iI ((wit n : Nat) : Int)) ∧ CS τ ad uu (bs) (ss) (pb) (nup P i n) (nup Q i 0) (iup ct 2 (ct 2 + 1)))) ∧ KO τ w uu) ∧ w' = wset uu o (true, eO 9 [jJ zz, sv]))) : ∃ (k nv : Int) (P1 Q1 : Nat → Nat) (ct1 : Nat → Int), r' = some (iI k) ∧ OV w' o nv ∧ (k = 0 → -2147483648 ≤ nv ∧ nv < 2147483648) ∧ BZ τ ad o w w' bs ss pb P1 Q1 ct1 ∧ D_split vi vn P Q ct k nv P1 Q1 ct1 := by
  obtain ⟨n0, s0, hO⟩ := hO
  rcases h with h | h | h
  · obtain ⟨hb, rfl, h1, h2⟩ := h
    exact ⟨1, n0, _, _, _, rfl, ⟨s0, by rw [h2]; exact hO⟩, fun h => absurd h (by omega), bz_same hC h1 h2, Or.inl ⟨hb, rfl, rfl, rfl, rfl⟩⟩
  · obtain ⟨hg, hb, rfl, h1, h2⟩ := h
    exact ⟨2, n0, _, _, _, rfl, ⟨s0, by rw [h2]; exact hO⟩, fun h => absurd h (by omega), bz_same hC h1 h2, Or.inr (Or.inl ⟨hg, hb, rfl, rfl, rfl, rfl⟩)⟩
  · obtain ⟨hg, hb, rfl, i, n, rfl, rfl, zz, uu, sv, hz, ⟨hp, hk2⟩, rfl⟩ := h
    rcases hp with ⟨g1, g2, hC2⟩ | ⟨g1, g2, hC2⟩
    · have e : zz = -9 := iI_inj (Option.some.inj g2) hz (by omega)
      exact ⟨0, zz, _, _, _, rfl, ⟨sv, wset_s⟩, fun _ => hz, bz_set hC2 hk2 ho _, Or.inr (Or.inr ⟨hg, hb, rfl, Or.inl ⟨g1, e, rfl, rfl, rfl⟩⟩)⟩
    · have hw := (SPb_v g1).wit.1
      have e : zz = ((wit n : Nat) : Int) := iI_inj (Option.some.inj g2) hz (by omega)
      exact ⟨0, zz, _, _, _, rfl, ⟨sv, wset_s⟩, fun _ => hz, bz_set hC2 hk2 ho _, Or.inr (Or.inr ⟨hg, hb, rfl, Or.inr ⟨g1, e, rfl, rfl, rfl⟩⟩)⟩
set_option maxHeartbeats 1000000 in
theorem a_euclid {τ ad : Nat → Nat} {w w' : Wd} {o : Nat} {bs ss : Nat → Int} {pb : Nat → PT} {P Q : Nat → Nat} {ct : Nat → Int} (hC : CS τ ad w bs ss pb P Q ct) (ho : τ o = 199) (hO : OU w o) {vi : Int} {r' : Option Value} (h : (¬ ((0 ≤ vi ∧ vi ≤ 2)) ∧ r' = some (iI 1) ∧ w.1 ≤ w'.1 ∧ w'.2 = w.2) ∨ (((0 ≤ vi ∧ vi ≤ 2)) ∧ r' = some (iI 0) ∧ ∃ (i : Nat), vi = (i : Int) ∧ ∃ (zz : Int) (uu : Wd) (sv : Value), (-2147483648 ≤ zz ∧ zz < 2147483648) ∧ ((((spS (P i) (Q i)).2.1 = 0 ∧ (some (iI zz)) = some (iI (-9)) ∧ CS τ ad uu (bs) (ss) (pb) (P) (Q) (iup ct 3 (ct 3 + 1))) ∨ ((spS (P i) (Q i)).2.1 ≠ 0 ∧ (some (iI zz)) = some (iI (spS (P i) (Q i + 1)).2.1) ∧ CS τ ad uu (bs) (ss) (pb) (P) (nup Q i (Q i + 1)) (iup ct 2 (ct 2 + 1)))) ∧ KO τ w uu) ∧ w' = wset uu o (true, eO 9 [jJ zz, sv]))) : ∃ (k nv : Int) (Q1 : Nat → Nat) (ct1 : Nat → Int), r' = some (iI k) ∧ OV w' o nv ∧ (k = 0 → -2147483648 ≤ nv ∧ nv < 2147483648) ∧ BZ τ ad o w w' bs ss pb P Q1 ct1 ∧ D_euclid vi P Q ct k nv Q1 ct1 := by
  obtain ⟨n0, s0, hO⟩ := hO
  rcases h with h | h
  · obtain ⟨hb, rfl, h1, h2⟩ := h
    exact ⟨1, n0, _, _, rfl, ⟨s0, by rw [h2]; exact hO⟩, fun h => absurd h (by omega), bz_same hC h1 h2, Or.inl ⟨hb, rfl, rfl, rfl⟩⟩
  · obtain ⟨hg, rfl, i, rfl, zz, uu, sv, hz, ⟨hp, hk2⟩, rfl⟩ := h
    rcases hp with ⟨g1, g2, hC2⟩ | ⟨g1, g2, hC2⟩
    · have e : zz = -9 := iI_inj (Option.some.inj g2) hz (by omega)
      exact ⟨0, zz, _, _, rfl, ⟨sv, wset_s⟩, fun _ => hz, bz_set hC2 hk2 ho _, Or.inr ⟨hg, rfl, Or.inl ⟨g1, e, rfl, rfl⟩⟩⟩
    · have hv := ((hC.S i (by omega)).2.next g1)
      obtain ⟨v1, v2, v3, -⟩ := hv.good
      have hpp := hv.p
      have e : zz = (spS (P i) (Q i + 1)).2.1 := iI_inj (Option.some.inj g2) hz (by omega)
      exact ⟨0, zz, _, _, rfl, ⟨sv, wset_s⟩, fun _ => hz, bz_set hC2 hk2 ho _, Or.inr ⟨hg, rfl, Or.inr ⟨g1, e, rfl, rfl⟩⟩⟩
set_option maxHeartbeats 1000000 in
theorem a_settle {τ ad : Nat → Nat} {w w' : Wd} {o : Nat} {bs ss : Nat → Int} {pb : Nat → PT} {P Q : Nat → Nat} {ct : Nat → Int} (hC : CS τ ad w bs ss pb P Q ct) (ho : τ o = 199) (hO : OU w o) {vi : Int} {r' : Option Value} (h : (¬ ((0 ≤ vi ∧ vi ≤ 2)) ∧ r' = some (iI 1) ∧ w.1 ≤ w'.1 ∧ w'.2 = w.2) ∨ (((0 ≤ vi ∧ vi ≤ 2)) ∧ r' = some (iI 0) ∧ ∃ (i : Nat), vi = (i : Int) ∧ ∃ (zz : Int) (uu : Wd) (sv : Value), (-2147483648 ≤ zz ∧ zz < 2147483648) ∧ (∃ t, Q i ≤ t ∧ SV (P i) t ∧ (∀ j, Q i ≤ j → j < t → (spS (P i) j).2.1 ≠ 0 ∧ ((P i : Nat) : Int) ≤ (spS (P i) j).1 * (spS (P i) j).1) ∧ ((spS (P i) t).2.1 = 0 ∨ (spS (P i) t).1 * (spS (P i) t).1 < ((P i : Nat) : Int)) ∧ (some (iI zz)) = some (iI ((t - Q i : Nat) : Int)) ∧ CS τ ad uu (bs) (ss) (pb) (P) (nup Q i t) (iup ct 2 (ct 2 + 1)) ∧ KO τ w uu) ∧ w' = wset uu o (true, eO 9 [jJ zz, sv]))) : ∃ (k nv : Int) (Q1 : Nat → Nat) (ct1 : Nat → Int), r' = some (iI k) ∧ OV w' o nv ∧ (k = 0 → -2147483648 ≤ nv ∧ nv < 2147483648) ∧ BZ τ ad o w w' bs ss pb P Q1 ct1 ∧ D_settle vi P Q ct k nv Q1 ct1 := by
  obtain ⟨n0, s0, hO⟩ := hO
  rcases h with h | h
  · obtain ⟨hb, rfl, h1, h2⟩ := h
    exact ⟨1, n0, _, _, rfl, ⟨s0, by rw [h2]; exact hO⟩, fun h => absurd h (by omega), bz_same hC h1 h2, Or.inl ⟨hb, rfl, rfl, rfl⟩⟩
  · obtain ⟨hg, rfl, i, rfl, zz, uu, sv, hz, ⟨t, t1, t2, t3, t4, g2, hC2, hk2⟩, rfl⟩ := h
    have t9 := t2.good.2.2.2.2.2.2.2.2
    have e : zz = ((t - Q i : Nat) : Int) := iI_inj (Option.some.inj g2) hz (by omega)
    exact ⟨0, zz, _, _, rfl, ⟨sv, wset_s⟩, fun _ => hz, bz_set hC2 hk2 ho _, Or.inr ⟨hg, rfl, t, t1, t2, t3, t4, e, rfl, rfl⟩⟩
set_option maxHeartbeats 1000000 in
theorem b_open {bs ss ba st pm le ri ct cm : Nat → Int} {pb : Nat → PT} {P Q : Nat → Nat} {sp : Nat → Nat → Int} {th : Int} {t : Nat} (hg : GD ba st pm le ri sp cm th t) (hr : RLx bs ss pb P Q ct ba st pm le ri sp cm) {k nv : Int} {walk b : Int} {bs1 ss1 ct1 : Nat → Int} (h1 : D_open walk b bs ss ct k nv bs1 ss1 ct1) {t2 ans : Int} {ba' st' cm' : Nat → Int} (h2 : ¬ (0 ≤ walk ∧ walk ≤ 2) ∧ t2 = 1 ∧ ans = 0 ∧ ba' = ba ∧ st' = st ∧ cm' = cm ∨ (0 ≤ walk ∧ walk ≤ 2) ∧ ¬ GB b ∧ t2 = 2 ∧ ans = 0 ∧ ba' = ba ∧ st' = st ∧ cm' = cm ∨ (0 ≤ walk ∧ walk ≤ 2) ∧ GB b ∧ t2 = 0 ∧ RT b ans ∧ ba' = iup ba walk.toNat b ∧ st' = iup st walk.toNat 0 ∧ cm' = iup cm 0 (cm 0 + 1)) : GD ba' st' pm le ri sp cm' t2 (t + 1) ∧ RLx bs1 ss1 pb P Q ct1 ba' st' pm le ri sp cm' ∧ k = t2 ∧ (k = 0 → nv = ans) := by
  obtain ⟨g1, g2, g3, g4, g5, g6⟩ := hg
  have h4 := hr.2.2
  rcases h1 with ⟨a1, a2, a3, a4, a5⟩ | ⟨a1, a0, a2, a3, a4, a5⟩ | ⟨a1, a0, a2, a6, a3, a4, a5⟩
  · rcases h2 with ⟨c1, c2, c3, c4, c5, c6⟩ | ⟨c1, c0, c2, c3, c4, c5, c6⟩ | ⟨c1, c0, c2, c3, c4, c5, c6⟩
    · subst a3 a4 a5 c4 c5 c6
      exact ⟨⟨g1, g2, g3, g4, by omega, (cm_eq5 g6)⟩, rl_c hr h4, by omega, by omega⟩
    · omega
    · omega
  · rcases h2 with ⟨c1, c2, c3, c4, c5, c6⟩ | ⟨c1, c0, c2, c3, c4, c5, c6⟩ | ⟨c1, c0, c2, c3, c4, c5, c6⟩
    · omega
    · subst a3 a4 a5 c4 c5 c6
      exact ⟨⟨g1, g2, g3, g4, by omega, (cm_eq5 g6)⟩, rl_c hr h4, by omega, by omega⟩
    · exact (a0 c0).elim
  · rcases h2 with ⟨c1, c2, c3, c4, c5, c6⟩ | ⟨c1, c0, c2, c3, c4, c5, c6⟩ | ⟨c1, c0, c2, c3, c4, c5, c6⟩
    · omega
    · exact (c0 a0).elim
    · subst a3 a4 a5 c4 c5 c6
      exact ⟨⟨gb_w g1 a0 _, st_w g2 (by omega) _, g3, g4, by omega, cm_up g6 0⟩, rl_w hr (ctu h4 (by omega)) _ _ _, by omega, fun _ => RT_uniq a6 c3⟩
set_option maxHeartbeats 1000000 in
theorem b_forth {bs ss ba st pm le ri ct cm : Nat → Int} {pb : Nat → PT} {P Q : Nat → Nat} {sp : Nat → Nat → Int} {th : Int} {t : Nat} (hg : GD ba st pm le ri sp cm th t) (hr : RLx bs ss pb P Q ct ba st pm le ri sp cm) {k nv : Int} {walk many : Int} {ss1 ct1 : Nat → Int} (h1 : D_forth walk many ss ct k nv ss1 ct1) {t2 ans : Int} {st' cm' : Nat → Int} (h2 : ¬ (0 ≤ walk ∧ walk ≤ 2) ∧ t2 = 1 ∧ ans = 0 ∧ st' = st ∧ cm' = cm ∨ (0 ≤ walk ∧ walk ≤ 2) ∧ ¬ (1 ≤ many ∧ many ≤ 6) ∧ t2 = 2 ∧ ans = 0 ∧ st' = st ∧ cm' = cm ∨ (0 ≤ walk ∧ walk ≤ 2) ∧ (1 ≤ many ∧ many ≤ 6) ∧ t2 = 0 ∧ 24 < st walk.toNat + many ∧ ans = -9 ∧ st' = st ∧ cm' = iup cm 3 (cm 3 + 1) ∨ (0 ≤ walk ∧ walk ≤ 2) ∧ (1 ≤ many ∧ many ≤ 6) ∧ t2 = 0 ∧ st walk.toNat + many ≤ 24 ∧ ans = st walk.toNat + many ∧ st' = iup st walk.toNat (st walk.toNat + many) ∧ cm' = iup cm 0 (cm 0 + 1)) : GD ba st' pm le ri sp cm' t2 (t + 1) ∧ RLx bs ss1 pb P Q ct1 ba st' pm le ri sp cm' ∧ k = t2 ∧ (k = 0 → nv = ans) := by
  obtain ⟨g1, g2, g3, g4, g5, g6⟩ := hg
  have h4 := hr.2.2
  have hw : (0 ≤ walk ∧ walk ≤ 2) → ss walk.toNat = st walk.toNat ∧ 0 ≤ st walk.toNat ∧ st walk.toNat ≤ 24 := fun q => ⟨(hr.1 walk.toNat (by omega)).2.1, g2 walk.toNat (by omega)⟩
  rcases h1 with ⟨a1, a2, a3, a4⟩ | ⟨a1, a0, a2, a3, a4⟩ | ⟨a1, a0, a2, ⟨a5, a6, a3, a4⟩ | ⟨a5, a6, a3, a4⟩⟩
  · rcases h2 with ⟨c1, c2, c3, c4, c5⟩ | ⟨c1, c0, c2, c3, c4, c5⟩ | ⟨c1, c0, c2, c6, c3, c4, c5⟩ | ⟨c1, c0, c2, c6, c3, c4, c5⟩
    · subst a3 a4 c4 c5
      exact ⟨⟨g1, g2, g3, g4, by omega, (cm_eq5 g6)⟩, rl_c hr h4, by omega, by omega⟩
    · omega
    · omega
    · omega
  · rcases h2 with ⟨c1, c2, c3, c4, c5⟩ | ⟨c1, c0, c2, c3, c4, c5⟩ | ⟨c1, c0, c2, c6, c3, c4, c5⟩ | ⟨c1, c0, c2, c6, c3, c4, c5⟩
    · omega
    · subst a3 a4 c4 c5
      exact ⟨⟨g1, g2, g3, g4, by omega, (cm_eq5 g6)⟩, rl_c hr h4, by omega, by omega⟩
    · omega
    · omega
  · have hw := hw a1
    rcases h2 with ⟨c1, c2, c3, c4, c5⟩ | ⟨c1, c0, c2, c3, c4, c5⟩ | ⟨c1, c0, c2, c6, c3, c4, c5⟩ | ⟨c1, c0, c2, c6, c3, c4, c5⟩
    · omega
    · omega
    · subst a3 a4 c4 c5
      exact ⟨⟨g1, g2, g3, g4, by omega, cm_up g6 3⟩, rl_c hr (ctu h4 (by omega)), by omega, by omega⟩
    · omega
  · have hw := hw a1
    rcases h2 with ⟨c1, c2, c3, c4, c5⟩ | ⟨c1, c0, c2, c3, c4, c5⟩ | ⟨c1, c0, c2, c6, c3, c4, c5⟩ | ⟨c1, c0, c2, c6, c3, c4, c5⟩
    · omega
    · omega
    · omega
    · subst a3 a4 c4 c5
      rw [hw.1]
      exact ⟨⟨g1, st_w g2 (by omega) _, g3, g4, by omega, cm_up g6 0⟩, rl_ws hr (ctu h4 (by omega)) _ _, by omega, by omega⟩
set_option maxHeartbeats 1000000 in
theorem b_back {bs ss ba st pm le ri ct cm : Nat → Int} {pb : Nat → PT} {P Q : Nat → Nat} {sp : Nat → Nat → Int} {th : Int} {t : Nat} (hg : GD ba st pm le ri sp cm th t) (hr : RLx bs ss pb P Q ct ba st pm le ri sp cm) {k nv : Int} {walk : Int} {ss1 ct1 : Nat → Int} (h1 : D_back walk ss ct k nv ss1 ct1) {t2 ans : Int} {st' cm' : Nat → Int} (h2 : ¬ (0 ≤ walk ∧ walk ≤ 2) ∧ t2 = 1 ∧ ans = 0 ∧ st' = st ∧ cm' = cm ∨ (0 ≤ walk ∧ walk ≤ 2) ∧ t2 = 0 ∧ st walk.toNat = 0 ∧ ans = -9 ∧ st' = st ∧ cm' = iup cm 3 (cm 3 + 1) ∨ (0 ≤ walk ∧ walk ≤ 2) ∧ t2 = 0 ∧ 0 < st walk.toNat ∧ ans = st walk.toNat - 1 ∧ st' = iup st walk.toNat (st walk.toNat - 1) ∧ cm' = iup cm 0 (cm 0 + 1)) : GD ba st' pm le ri sp cm' t2 (t + 1) ∧ RLx bs ss1 pb P Q ct1 ba st' pm le ri sp cm' ∧ k = t2 ∧ (k = 0 → nv = ans) := by
  obtain ⟨g1, g2, g3, g4, g5, g6⟩ := hg
  have h4 := hr.2.2
  have hw : (0 ≤ walk ∧ walk ≤ 2) → ss walk.toNat = st walk.toNat ∧ 0 ≤ st walk.toNat ∧ st walk.toNat ≤ 24 := fun q => ⟨(hr.1 walk.toNat (by omega)).2.1, g2 walk.toNat (by omega)⟩
  rcases h1 with ⟨a1, a2, a3, a4⟩ | ⟨a1, a2, ⟨a5, a6, a3, a4⟩ | ⟨a5, a6, a3, a4⟩⟩
  · rcases h2 with ⟨c1, c2, c3, c4, c5⟩ | ⟨c1, c2, c6, c3, c4, c5⟩ | ⟨c1, c2, c6, c3, c4, c5⟩
    · subst a3 a4 c4 c5
      exact ⟨⟨g1, g2, g3, g4, by omega, (cm_eq5 g6)⟩, rl_c hr h4, by omega, by omega⟩
    · omega
    · omega
  · have hw := hw a1
    rcases h2 with ⟨c1, c2, c3, c4, c5⟩ | ⟨c1, c2, c6, c3, c4, c5⟩ | ⟨c1, c2, c6, c3, c4, c5⟩
    · omega
    · subst a3 a4 c4 c5
      exact ⟨⟨g1, g2, g3, g4, by omega, cm_up g6 3⟩, rl_c hr (ctu h4 (by omega)), by omega, by omega⟩
    · omega
  · have hw := hw a1
    rcases h2 with ⟨c1, c2, c3, c4, c5⟩ | ⟨c1, c2, c6, c3, c4, c5⟩ | ⟨c1, c2, c6, c3, c4, c5⟩
    · omega
    · omega
    · subst a3 a4 c4 c5
      rw [hw.1]
      exact ⟨⟨g1, st_w g2 (by omega) _, g3, g4, by omega, cm_up g6 0⟩, rl_ws hr (ctu h4 (by omega)) _ _, by omega, by omega⟩
set_option maxHeartbeats 1000000 in
theorem b_walkCopy {bs ss ba st pm le ri ct cm : Nat → Int} {pb : Nat → PT} {P Q : Nat → Nat} {sp : Nat → Nat → Int} {th : Int} {t : Nat} (hg : GD ba st pm le ri sp cm th t) (hr : RLx bs ss pb P Q ct ba st pm le ri sp cm) {k nv : Int} {walk into : Int} {bs1 ss1 ct1 : Nat → Int} (h1 : D_walkCopy walk into bs ss ct k nv bs1 ss1 ct1) {t2 ans : Int} {ba' st' cm' : Nat → Int} (h2 : ¬ ((0 ≤ walk ∧ walk ≤ 2) ∧ (0 ≤ into ∧ into ≤ 2)) ∧ t2 = 1 ∧ ans = 0 ∧ ba' = ba ∧ st' = st ∧ cm' = cm ∨ ((0 ≤ walk ∧ walk ≤ 2) ∧ (0 ≤ into ∧ into ≤ 2)) ∧ t2 = 0 ∧ ans = bI (ba walk.toNat ≠ ba into.toNat ∨ st walk.toNat ≠ st into.toNat) ∧ ba' = iup ba into.toNat (ba walk.toNat) ∧ st' = iup st into.toNat (st walk.toNat) ∧ cm' = iup cm 0 (cm 0 + 1)) : GD ba' st' pm le ri sp cm' t2 (t + 1) ∧ RLx bs1 ss1 pb P Q ct1 ba' st' pm le ri sp cm' ∧ k = t2 ∧ (k = 0 → nv = ans) := by
  obtain ⟨g1, g2, g3, g4, g5, g6⟩ := hg
  have h4 := hr.2.2
  rcases h1 with ⟨a1, a2, a3, a4, a5⟩ | ⟨a1, a2, a6, a3, a4, a5⟩
  · rcases h2 with ⟨c1, c2, c3, c4, c5, c6⟩ | ⟨c1, c2, c3, c4, c5, c6⟩
    · subst a3 a4 a5 c4 c5 c6
      exact ⟨⟨g1, g2, g3, g4, by omega, (cm_eq5 g6)⟩, rl_c hr h4, by omega, by omega⟩
    · omega
  · rcases h2 with ⟨c1, c2, c3, c4, c5, c6⟩ | ⟨c1, c2, c3, c4, c5, c6⟩
    · omega
    · obtain ⟨e1, e2, -⟩ := hr.1 walk.toNat (by omega)
      obtain ⟨e3, e4, -⟩ := hr.1 into.toNat (by omega)
      subst a3 a4 a5 c4 c5 c6
      rw [e1, e2]
      rw [e1, e2, e3, e4] at a6
      exact ⟨⟨gb_w g1 (g1 _ (by omega)) _, st_w g2 (g2 _ (by omega)) _, g3, g4, by omega, cm_up g6 0⟩, rl_w hr (ctu h4 (by omega)) _ _ _, by omega, fun _ => a6.trans c3.symm⟩
set_option maxHeartbeats 1000000 in
theorem b_split {bs ss ba st pm le ri ct cm : Nat → Int} {pb : Nat → PT} {P Q : Nat → Nat} {sp : Nat → Nat → Int} {th : Int} {t : Nat} (hg : GD ba st pm le ri sp cm th t) (hr : RLx bs ss pb P Q ct ba st pm le ri sp cm) {k nv : Int} {v num : Int} {P1 Q1 : Nat → Nat} {ct1 : Nat → Int} (h1 : D_split v num P Q ct k nv P1 Q1 ct1) {t2 ans : Int} {sp' : Nat → Nat → Int} {cm' : Nat → Int} (h2 : ¬ (0 ≤ v ∧ v ≤ 2) ∧ t2 = 1 ∧ ans = 0 ∧ sp' = sp ∧ cm' = cm ∨ (0 ≤ v ∧ v ≤ 2) ∧ ¬ (5 ≤ num ∧ num ≤ 997) ∧ t2 = 2 ∧ ans = 0 ∧ sp' = sp ∧ cm' = cm ∨ (0 ≤ v ∧ v ≤ 2) ∧ (5 ≤ num ∧ num ≤ 997) ∧ t2 = 0 ∧ ¬ (SPb num.toNat = true) ∧ ans = -9 ∧ sp' = sp ∧ cm' = iup cm 3 (cm 3 + 1) ∨ (0 ≤ v ∧ v ≤ 2) ∧ (5 ≤ num ∧ num ≤ 997) ∧ t2 = 0 ∧ SPb num.toNat = true ∧ ∃ f : Nat → Int, SpR f num.toNat 0 ∧ ans = ((wit num.toNat : Nat) : Int) ∧ sp' = sup sp v.toNat f ∧ cm' = iup cm 2 (cm 2 + 1)) : GD ba st pm le ri sp' cm' t2 (t + 1) ∧ RLx bs ss pb P1 Q1 ct1 ba st pm le ri sp' cm' ∧ k = t2 ∧ (k = 0 → nv = ans) := by
  obtain ⟨g1, g2, g3, g4, g5, g6⟩ := hg
  have h4 := hr.2.2
  rcases h1 with ⟨a1, a2, a3, a4, a5⟩ | ⟨a1, a0, a2, a3, a4, a5⟩ | ⟨a1, a0, a2, ⟨a6, a7, a3, a4, a5⟩ | ⟨a6, a7, a3, a4, a5⟩⟩
  · rcases h2 with ⟨c1, c2, c3, c4, c5⟩ | ⟨c1, c0, c2, c3, c4, c5⟩ | ⟨c1, c0, c2, c6, c3, c4, c5⟩ | ⟨c1, c0, c2, c6, f, c7, c3, c4, c5⟩
    · subst a3 a4 a5 c4 c5
      exact ⟨⟨g1, g2, g3, g4, by omega, (cm_eq5 g6)⟩, rl_c hr h4, by omega, by omega⟩
    · omega
    · omega
    · omega
  · rcases h2 with ⟨c1, c2, c3, c4, c5⟩ | ⟨c1, c0, c2, c3, c4, c5⟩ | ⟨c1, c0, c2, c6, c3, c4, c5⟩ | ⟨c1, c0, c2, c6, f, c7, c3, c4, c5⟩
    · omega
    · subst a3 a4 a5 c4 c5
      exact ⟨⟨g1, g2, g3, g4, by omega, (cm_eq5 g6)⟩, rl_c hr h4, by omega, by omega⟩
    · omega
    · omega
  · rcases h2 with ⟨c1, c2, c3, c4, c5⟩ | ⟨c1, c0, c2, c3, c4, c5⟩ | ⟨c1, c0, c2, c6, c3, c4, c5⟩ | ⟨c1, c0, c2, c6, f, c7, c3, c4, c5⟩
    · omega
    · omega
    · subst a3 a4 a5 c4 c5
      exact ⟨⟨g1, g2, g3, g4, by omega, cm_up g6 3⟩, rl_c hr (ctu h4 (by omega)), by omega, by omega⟩
    · exact (a6 c6).elim
  · rcases h2 with ⟨c1, c2, c3, c4, c5⟩ | ⟨c1, c0, c2, c3, c4, c5⟩ | ⟨c1, c0, c2, c6, c3, c4, c5⟩ | ⟨c1, c0, c2, c6, f, c7, c3, c4, c5⟩
    · omega
    · omega
    · exact (c6 a6).elim
    · subst a3 a4 a5 c4 c5
      exact ⟨⟨g1, g2, g3, hz_s g4 c7, by omega, cm_up g6 2⟩, rl_s hr (ctu h4 (by omega)) c7, by omega, fun _ => a7.trans c3.symm⟩
set_option maxHeartbeats 1000000 in
theorem b_euclid {bs ss ba st pm le ri ct cm : Nat → Int} {pb : Nat → PT} {P Q : Nat → Nat} {sp : Nat → Nat → Int} {th : Int} {t : Nat} (hg : GD ba st pm le ri sp cm th t) (hr : RLx bs ss pb P Q ct ba st pm le ri sp cm) {k nv : Int} {v : Int} {Q1 : Nat → Nat} {ct1 : Nat → Int} (h1 : D_euclid v P Q ct k nv Q1 ct1) {t2 ans : Int} {sp' : Nat → Nat → Int} {cm' : Nat → Int} (h2 : ¬ (0 ≤ v ∧ v ≤ 2) ∧ t2 = 1 ∧ ans = 0 ∧ sp' = sp ∧ cm' = cm ∨ (0 ≤ v ∧ v ≤ 2) ∧ t2 = 0 ∧ sp v.toNat 2 = 0 ∧ ans = -9 ∧ sp' = sp ∧ cm' = iup cm 3 (cm 3 + 1) ∨ (0 ≤ v ∧ v ≤ 2) ∧ t2 = 0 ∧ sp v.toNat 2 ≠ 0 ∧ ∃ (p k : Nat) (f : Nat → Int), SpR (sp v.toNat) p k ∧ SpR f p (k + 1) ∧ ans = f 2 ∧ sp' = sup sp v.toNat f ∧ cm' = iup cm 2 (cm 2 + 1)) : GD ba st pm le ri sp' cm' t2 (t + 1) ∧ RLx bs ss pb P Q1 ct1 ba st pm le ri sp' cm' ∧ k = t2 ∧ (k = 0 → nv = ans) := by
  obtain ⟨g1, g2, g3, g4, g5, g6⟩ := hg
  have h4 := hr.2.2
  have hw : (0 ≤ v ∧ v ≤ 2) → SpR (sp v.toNat) (P v.toNat) (Q v.toNat) := fun q => (hr.1 v.toNat (by omega)).2.2
  rcases h1 with ⟨a1, a2, a4, a5⟩ | ⟨a1, a2, ⟨a6, a7, a4, a5⟩ | ⟨a6, a7, a4, a5⟩⟩
  · rcases h2 with ⟨c1, c2, c3, c4, c5⟩ | ⟨c1, c2, c6, c3, c4, c5⟩ | ⟨c1, c2, c6, p, n, f, c7, c8, c3, c4, c5⟩
    · subst a4 a5 c4 c5
      exact ⟨⟨g1, g2, g3, g4, by omega, (cm_eq5 g6)⟩, rl_c hr h4, by omega, by omega⟩
    · omega
    · omega
  · have hw := hw a1
    have e2 := hw.2.2.2.1
    rcases h2 with ⟨c1, c2, c3, c4, c5⟩ | ⟨c1, c2, c6, c3, c4, c5⟩ | ⟨c1, c2, c6, p, n, f, c7, c8, c3, c4, c5⟩
    · omega
    · subst a4 a5 c4 c5
      exact ⟨⟨g1, g2, g3, g4, by omega, cm_up g6 3⟩, rl_c hr (ctu h4 (by omega)), by omega, by omega⟩
    · omega
  · have hw := hw a1
    have e2 := hw.2.2.2.1
    rcases h2 with ⟨c1, c2, c3, c4, c5⟩ | ⟨c1, c2, c6, c3, c4, c5⟩ | ⟨c1, c2, c6, p, n, f, c7, c8, c3, c4, c5⟩
    · omega
    · omega
    · obtain ⟨e3, e4⟩ := SpR_u c7 hw
      subst a4 a5 c4 c5
      rw [e3, e4] at c8
      have h9 := rl_s (i := v.toNat) hr (ctu h4 (j := 2) (by omega)) c8
      rw [nup_id] at h9
      exact ⟨⟨g1, g2, g3, hz_s g4 c8, by omega, cm_up g6 2⟩, h9, by omega, fun _ => by rw [a7, c3]; exact c8.2.2.2.1.symm⟩
set_option maxHeartbeats 1000000 in
theorem b_settle {bs ss ba st pm le ri ct cm : Nat → Int} {pb : Nat → PT} {P Q : Nat → Nat} {sp : Nat → Nat → Int} {th : Int} {t : Nat} (hg : GD ba st pm le ri sp cm th t) (hr : RLx bs ss pb P Q ct ba st pm le ri sp cm) {k nv : Int} {v : Int} {Q1 : Nat → Nat} {ct1 : Nat → Int} (h1 : D_settle v P Q ct k nv Q1 ct1) {t2 ans : Int} {sp' : Nat → Nat → Int} {cm' : Nat → Int} (h2 : ¬ (0 ≤ v ∧ v ≤ 2) ∧ t2 = 1 ∧ ans = 0 ∧ sp' = sp ∧ cm' = cm ∨ (0 ≤ v ∧ v ≤ 2) ∧ t2 = 0 ∧ ∃ (p k j : Nat) (f : Nat → Int), SpR (sp v.toNat) p k ∧ SpR f p (k + j) ∧ (spS p (k + j)).1 * (spS p (k + j)).1 < p ∧ (∀ i, k ≤ i → i < k + j → p ≤ (spS p i).1 * (spS p i).1) ∧ ans = j ∧ sp' = sup sp v.toNat f ∧ cm' = iup cm 2 (cm 2 + 1)) : GD ba st pm le ri sp' cm' t2 (t + 1) ∧ RLx bs ss pb P Q1 ct1 ba st pm le ri sp' cm' ∧ k = t2 ∧ (k = 0 → nv = ans) := by
  obtain ⟨g1, g2, g3, g4, g5, g6⟩ := hg
  have h4 := hr.2.2
  have hw : (0 ≤ v ∧ v ≤ 2) → SpR (sp v.toNat) (P v.toNat) (Q v.toNat) := fun q => (hr.1 v.toNat (by omega)).2.2
  rcases h1 with ⟨a1, a2, a4, a5⟩ | ⟨a1, a2, s, b1, b2, b3, b4, a7, a4, a5⟩
  · rcases h2 with ⟨c1, c2, c3, c4, c5⟩ | ⟨c1, c2, p, n, j, f, c6, c7, c8, c9, c3, c4, c5⟩
    · subst a4 a5 c4 c5
      exact ⟨⟨g1, g2, g3, g4, by omega, (cm_eq5 g6)⟩, rl_c hr h4, by omega, by omega⟩
    · omega
  · have hw := hw a1
    rcases h2 with ⟨c1, c2, c3, c4, c5⟩ | ⟨c1, c2, p, n, j, f, c6, c7, c8, c9, c3, c4, c5⟩
    · omega
    · obtain ⟨e3, e4⟩ := SpR_u c6 hw
      subst a4 a5 c4 c5
      subst e3 e4
      have hpp := b2.p
      have es : s = Q v.toNat + j := by
        rcases Nat.lt_or_ge s (Q v.toNat + j) with q | q
        · have d1 := c9 s b1 q
          rcases b4 with b4 | b4
          · have d2 := b2.good.2.2.2.2.2.1 b4
            rw [d2] at d1
            omega
          · omega
        · rcases Nat.lt_or_ge (Q v.toNat + j) s with q2 | q2
          · have d1 := (b3 (Q v.toNat + j) (by omega) q2).2
            omega
          · omega
      subst es
      have h9 := rl_s (i := v.toNat) hr (ctu h4 (j := 2) (by omega)) c7
      rw [nup_id] at h9
      exact ⟨⟨g1, g2, g3, hz_s g4 c7, by omega, cm_up g6 2⟩, h9, by omega, fun _ => by rw [a7, c3]; omega⟩
