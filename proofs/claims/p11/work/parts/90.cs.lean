/-! the class's whole state -/
/-- all but the cells with the tags of S, and the desk's own, stay -/
def KY (τ : Nat → Nat) (S : Nat → Bool) (w w' : Wd) : Prop := w.1 ≤ w'.1 ∧ ∀ a x, τ a < 340 → ¬ (200 ≤ τ a ∧ τ a < 208) → S (τ a) = false → w.2 a = some x → w'.2 a = some x
def SX (i : Nat) : Nat → Bool := fun s => decide (s = 140 + i) || (decide (208 + 4 * i ≤ s) && decide (s < 212 + 4 * i))
def SF : Nat → Bool := fun s => (decide (104 ≤ s) && decide (s ≤ 109)) || decide (232 ≤ s)
theorem SX_f {i t : Nat} (h : t ≠ 140 + i ∧ ¬ (208 + 4 * i ≤ t ∧ t < 212 + 4 * i)) : SX i t = false := by
  unfold SX
  simp only [Bool.or_eq_false_iff, Bool.and_eq_false_iff, decide_eq_false_iff_not]
  omega
theorem SF_f {t : Nat} (h : ¬ (104 ≤ t ∧ t ≤ 109) ∧ t < 232) : SF t = false := by
  unfold SF
  simp only [Bool.or_eq_false_iff, Bool.and_eq_false_iff, decide_eq_false_iff_not]
  omega
theorem SX_t {i t : Nat} (h : SX i t = false) : t ≠ 140 + i ∧ ¬ (208 + 4 * i ≤ t ∧ t < 212 + 4 * i) := by
  unfold SX at h
  simp only [Bool.or_eq_false_iff, Bool.and_eq_false_iff, decide_eq_false_iff_not] at h
  omega
theorem SF_t {t : Nat} (h : SF t = false) : ¬ (104 ≤ t ∧ t ≤ 109) ∧ t < 232 := by
  unfold SF at h
  simp only [Bool.or_eq_false_iff, Bool.and_eq_false_iff, decide_eq_false_iff_not] at h
  omega
theorem KN.ky {τ : Nat → Nat} {w w' : Wd} (h : KN τ w w') (S : Nat → Bool) : KY τ S w w' := ⟨h.1, fun a x q1 q2 _ e => h.2 a x (by omega) e⟩
theorem KX.ky {τ : Nat → Nat} {t : Nat} {w w' : Wd} (h : KX τ t w w') : KY τ (SX t) w w' := ⟨h.1, fun a x q1 q2 n e => h.2 a x q1 q2 (SX_t n).1 (SX_t n).2 e⟩
theorem KF.ky {τ : Nat → Nat} {w w' : Wd} (h : KF τ w w') : KY τ SF w w' := ⟨h.1, fun a x q1 q2 n e => h.2 a x (SF_t n).1 (by have := (SF_t n).2; omega) e⟩
theorem KY.wst {τ ad : Nat → Nat} {w : Wd} (h : NS τ ad w) {t : Nat} (ht : 100 ≤ t ∧ t < 200) (e : WdE) : KY τ (fun s => s == t) w (wset w (ad t) e) := ⟨Nat.le_refl _, fun a x _ _ n q => by
  rw [wset_n (fun c => by
    rw [c, h.t t (by omega)] at n
    simp at n)]
  exact q⟩
theorem KY.tr {τ : Nat → Nat} {S : Nat → Bool} {w u v : Wd} (h : KY τ S w u) (g : KY τ S u v) : KY τ S w v := ⟨Nat.le_trans h.1 g.1, fun a x q1 q2 n e => g.2 a x q1 q2 n (h.2 a x q1 q2 n e)⟩
theorem KY.ob {τ ad : Nat → Nat} {S : Nat → Bool} {w w' : Wd} (k : KY τ S w w') (h : NS τ ad w') {t : Nat} (ht : 100 ≤ t ∧ t < 200) (hs : S t = false) {x : WdE} (e : w.2 (ad t) = some x) : w'.2 (ad t) = some x := k.2 _ _ (by rw [h.t t (by omega)]; omega) (by rw [h.t t (by omega)]; omega) (by rw [h.t t (by omega)]; exact hs) e
theorem KY.nw {τ ad : Nat → Nat} {S : Nat → Bool} {w w' : Wd} (k : KY τ S w w') (h : NS τ ad w') {j : Nat} (hj : 4 ≤ j ∧ j < 70) (hs : S (200 + 2 * j) = false ∧ S (201 + 2 * j) = false) {z : Int} (e : NW ad w j z) : NW ad w' j z := e.k
  (fun x q => k.2 _ _ (by rw [h.to hj.2]; omega) (by rw [h.to hj.2]; omega) (by rw [h.to hj.2]; exact hs.1) q)
  (fun x q => k.2 _ _ (by rw [h.tr hj.2]; omega) (by rw [h.tr hj.2]; omega) (by rw [h.tr hj.2]; exact hs.2) q)
/-- what others own stays -/
def KO (τ : Nat → Nat) (w w' : Wd) : Prop := w.1 ≤ w'.1 ∧ ∀ a x, (τ a < 100 ∨ τ a = 199) → w.2 a = some x → w'.2 a = some x
theorem KO.rf (τ : Nat → Nat) (w : Wd) : KO τ w w := ⟨Nat.le_refl _, fun _ _ _ h => h⟩
theorem KO.tr {τ : Nat → Nat} {w u v : Wd} (h : KO τ w u) (g : KO τ u v) : KO τ w v := ⟨Nat.le_trans h.1 g.1, fun a x t e => g.2 a x t (h.2 a x t e)⟩
theorem KN.kc {τ : Nat → Nat} {w w' : Wd} (h : KN τ w w') : KO τ w w' := ⟨h.1, fun a x q e => h.2 a x (by omega) e⟩
theorem KX.kc {τ : Nat → Nat} {t : Nat} {w w' : Wd} (h : KX τ t w w') (ht : t < 59) : KO τ w w' := ⟨h.1, fun a x q e => h.2 a x (by omega) (by omega) (by omega) (by omega) e⟩
theorem KF.kc {τ : Nat → Nat} {w w' : Wd} (h : KF τ w w') : KO τ w w' := ⟨h.1, fun a x q e => h.2 a x (by omega) (by omega) e⟩
theorem KO.wst {τ ad : Nat → Nat} {w : Wd} (h : NS τ ad w) {t : Nat} (ht : 100 ≤ t ∧ t < 199) (e : WdE) : KO τ w (wset w (ad t) e) := ⟨Nat.le_refl _, fun a x q g => by
  rw [wset_n (fun c => by
    rw [c, h.t t (by omega)] at q
    omega)]
  exact g⟩
theorem KO.big {τ : Nat → Nat} {w w' : Wd} (h1 : w.1 ≤ w'.1) (h2 : w'.2 = w.2) : KO τ w w' := ⟨h1, fun a x _ e => by rw [h2]; exact e⟩
theorem KO.fr {τ : Nat → Nat} {w w' : Wd} (h : Fr w w') (hw : wF w) : KO τ w w' := ⟨h.1, fun a x _ e => by rw [h.2 a (hw a x e)]; exact e⟩
def oX (ad : Nat → Nat) (ct : Nat → Int) : Ent := eO 8 [.ref (ad 101), .ref (ad 102), .ref (ad 103), .ref (ad 104), .ref (ad 110), .ref (ad 143), .ref (ad 144), .ref (ad 145), .ref (ad 133), .ref (ad 134), iI (ct 0), iI (ct 1), iI (ct 2), iI (ct 3), iI (ct 4)]
theorem oX_eq (ad : Nat → Nat) (ct : Nat → Int) : oX ad ct = eO 8 [.ref (ad 101), .ref (ad 102), .ref (ad 103), .ref (ad 104), .ref (ad 110), .ref (ad 143), .ref (ad 144), .ref (ad 145), .ref (ad 133), .ref (ad 134), iI (ct 0), iI (ct 1), iI (ct 2), iI (ct 3), iI (ct 4)] := rfl
def AR (ad : Nat → Nat) (w : Wd) : Prop := (∃ R, w.2 (ad 101) = some (true, eR 3 3 R) ∧ ∀ i, i < 3 → R i = some (ad (120 + i))) ∧ (∃ R, w.2 (ad 102) = some (true, eR 4 3 R) ∧ ∀ i, i < 3 → R i = some (ad (140 + i))) ∧ (∃ R, w.2 (ad 103) = some (true, eR 5 3 R) ∧ ∀ i, i < 3 → R i = some (ad (130 + i)))
def WK (ad : Nat → Nat) (w : Wd) (bs ss : Nat → Int) : Prop := ∀ i, i < 3 → w.2 (ad (120 + i)) = some (true, eO 6 [iI (bs i), iI (ss i)]) ∧ GB (bs i) ∧ 0 ≤ ss i ∧ ss i ≤ 24
/-- no more than 80 bits -/
def sm (p : PT) : Prop := ¬ (LGN ≤ aB p.2.1 ∨ LGN ≤ aB p.2.2)
def PK (ad : Nat → Nat) (w : Wd) (pb : Nat → PT) : Prop := ∀ i, i < 6 → PV ad w i (pb i) ∧ GB (pb i).1 ∧ (i < 3 → sm (pb i))
def pup (f : Nat → PT) (i : Nat) (x : PT) : Nat → PT := fun j => if j = i then x else f j
theorem pup_s {f : Nat → PT} {i : Nat} {x : PT} : pup f i x i = x := if_pos rfl
theorem pup_n {f : Nat → PT} {i j : Nat} {x : PT} (h : j ≠ i) : pup f i x j = f j := if_neg h
def SK (ad : Nat → Nat) (w : Wd) (sP sQ : Nat → Nat) : Prop := ∀ i, i < 5 → w.2 (ad (130 + i)) = some (true, oS (sP i) (sQ i)) ∧ SV (sP i) (sQ i)
def FK (ad : Nat → Nat) (w : Wd) : Prop := ∃ fb fr m d a, FS ad w fb fr m d a ∧ (fb = 0 ∨ FV fb fr m d a ∧ FN ad w fb fr) ∧ -1000 ≤ fb ∧ fb ≤ 1000
def CS (τ ad : Nat → Nat) (w : Wd) (bs ss : Nat → Int) (pb : Nat → PT) (sP sQ : Nat → Nat) (ct : Nat → Int) : Prop :=
  NS τ ad w ∧ w.2 (ad 100) = some (true, oX ad ct) ∧ AR ad w ∧ WK ad w bs ss ∧ PK ad w pb ∧ SK ad w sP sQ ∧ w.2 (ad 110) = some (true, oD ad) ∧ FK ad w
section
variable {τ ad : Nat → Nat} {w w' : Wd} {bs ss : Nat → Int} {pb : Nat → PT} {sP sQ : Nat → Nat} {ct : Nat → Int}
theorem CS.N (h : CS τ ad w bs ss pb sP sQ ct) : NS τ ad w := h.1
theorem CS.o (h : CS τ ad w bs ss pb sP sQ ct) : w.2 (ad 100) = some (true, oX ad ct) := h.2.1
theorem CS.A (h : CS τ ad w bs ss pb sP sQ ct) : AR ad w := h.2.2.1
theorem CS.W (h : CS τ ad w bs ss pb sP sQ ct) : WK ad w bs ss := h.2.2.2.1
theorem CS.P (h : CS τ ad w bs ss pb sP sQ ct) : PK ad w pb := h.2.2.2.2.1
theorem CS.S (h : CS τ ad w bs ss pb sP sQ ct) : SK ad w sP sQ := h.2.2.2.2.2.1
theorem CS.D (h : CS τ ad w bs ss pb sP sQ ct) : w.2 (ad 110) = some (true, oD ad) := h.2.2.2.2.2.2.1
theorem CS.F (h : CS τ ad w bs ss pb sP sQ ct) : FK ad w := h.2.2.2.2.2.2.2
theorem AR.ky {S : Nat → Bool} (h : AR ad w) (k : KY τ S w w') (hN : NS τ ad w') (hs : S 101 = false ∧ S 102 = false ∧ S 103 = false) : AR ad w' := by
  obtain ⟨⟨R1, a1, b1⟩, ⟨R2, a2, b2⟩, ⟨R3, a3, b3⟩⟩ := h
  exact ⟨⟨R1, k.ob hN (by omega) hs.1 a1, b1⟩, ⟨R2, k.ob hN (by omega) hs.2.1 a2, b2⟩, ⟨R3, k.ob hN (by omega) hs.2.2 a3, b3⟩⟩
theorem WK.ky {S : Nat → Bool} (h : WK ad w bs ss) (k : KY τ S w w') (hN : NS τ ad w') (hs : ∀ i, i < 3 → S (120 + i) = false) : WK ad w' bs ss := fun i hi => ⟨k.ob hN (by omega) (hs i hi) (h i hi).1, (h i hi).2⟩
theorem PV.ky {S : Nat → Bool} {i : Nat} {p : PT} (h : PV ad w i p) (k : KY τ S w w') (hN : NS τ ad w') (hi : i < 6) (hs : S (140 + i) = false ∧ ∀ t, 208 + 4 * i ≤ t → t < 212 + 4 * i → S t = false) : PV ad w' i p :=
  ⟨k.ob hN (t := 140 + i) (by omega) hs.1 h.1, k.nw hN (by omega) ⟨hs.2 _ (by omega) (by omega), hs.2 _ (by omega) (by omega)⟩ h.2.1, k.nw hN (by omega) ⟨hs.2 _ (by omega) (by omega), hs.2 _ (by omega) (by omega)⟩ h.2.2⟩
theorem PK.ky {S : Nat → Bool} (h : PK ad w pb) (k : KY τ S w w') (hN : NS τ ad w') (hs : ∀ t, 140 ≤ t → t < 232 → (t < 146 ∨ 208 ≤ t) → S t = false) : PK ad w' pb := fun i hi => ⟨(h i hi).1.ky k hN hi ⟨hs _ (by omega) (by omega) (by omega), fun t h1 h2 => hs t (by omega) (by omega) (by omega)⟩, (h i hi).2⟩
theorem SK.ky {S : Nat → Bool} (h : SK ad w sP sQ) (k : KY τ S w w') (hN : NS τ ad w') (hs : ∀ i, i < 5 → S (130 + i) = false) : SK ad w' sP sQ := fun i hi => ⟨k.ob hN (by omega) (hs i hi) (h i hi).1, (h i hi).2⟩
theorem FK.ky {S : Nat → Bool} (h : FK ad w) (k : KY τ S w w') (hN : NS τ ad w') (hs : ∀ t, 104 ≤ t → t < 340 → (t ≤ 109 ∨ 232 ≤ t) → S t = false) : FK ad w' := by
  obtain ⟨fb, fr, m, d, a, ⟨h1, h2, h3, h4, ⟨R, h5, h6⟩, ⟨R2, h7, h8⟩⟩, g⟩ := h
  exact ⟨fb, fr, m, d, a, ⟨k.ob hN (t := 104) (by omega) (hs _ (by omega) (by omega) (by omega)) h1, k.ob hN (t := 105) (by omega) (hs _ (by omega) (by omega) (by omega)) h2, k.ob hN (t := 106) (by omega) (hs _ (by omega) (by omega) (by omega)) h3, k.ob hN (t := 107) (by omega) (hs _ (by omega) (by omega) (by omega)) h4, ⟨R, k.ob hN (t := 108) (by omega) (hs _ (by omega) (by omega) (by omega)) h5, h6⟩, ⟨R2, k.ob hN (t := 109) (by omega) (hs _ (by omega) (by omega) (by omega)) h7, h8⟩⟩, g.1.imp id (fun q => ⟨q.1, fun i hi => ⟨k.nw hN (by omega) ⟨hs _ (by omega) (by omega) (by omega), hs _ (by omega) (by omega) (by omega)⟩ (q.2 i hi).1, k.nw hN (by omega) ⟨hs _ (by omega) (by omega) (by omega), hs _ (by omega) (by omega) (by omega)⟩ (q.2 i hi).2⟩⟩), g.2⟩
theorem CS.kn (h : CS τ ad w bs ss pb sP sQ ct) (k : KN τ w w') (hN : NS τ ad w') : CS τ ad w' bs ss pb sP sQ ct := by
  have y := k.ky (fun _ => false)
  exact ⟨hN, y.ob hN (by omega) rfl h.o, h.A.ky y hN ⟨rfl, rfl, rfl⟩, h.W.ky y hN (fun _ _ => rfl), h.P.ky y hN (fun _ _ _ _ => rfl), h.S.ky y hN (fun _ _ => rfl), y.ob hN (by omega) rfl h.D, h.F.ky y hN (fun _ _ _ _ => rfl)⟩
theorem CS.kf (h : CS τ ad w bs ss pb sP sQ ct) (k : KF τ w w') (hN : NS τ ad w') (hF : FK ad w') : CS τ ad w' bs ss pb sP sQ ct := by
  have y := k.ky
  have f : ∀ t, ¬ (104 ≤ t ∧ t ≤ 109) ∧ t < 232 → SF t = false := fun t ht => SF_f ht
  exact ⟨hN, y.ob hN (by omega) (f _ (by omega)) h.o, h.A.ky y hN ⟨f _ (by omega), f _ (by omega), f _ (by omega)⟩, h.W.ky y hN (fun i _ => f _ (by omega)), h.P.ky y hN (fun t h1 h2 _ => f t (by omega)), h.S.ky y hN (fun i _ => f _ (by omega)), y.ob hN (by omega) (f _ (by omega)) h.D, hF⟩
theorem CS.kx (h : CS τ ad w bs ss pb sP sQ ct) {i : Nat} {p : PT} (hi : i < 6) (k : KX τ i w w') (hN : NS τ ad w') (hP : PV ad w' i p) (hb : GB p.1) (hs : i < 3 → sm p) : CS τ ad w' bs ss (pup pb i p) sP sQ ct := by
  have y := k.ky
  have f : ∀ t, t ≠ 140 + i ∧ ¬ (208 + 4 * i ≤ t ∧ t < 212 + 4 * i) → SX i t = false := fun t ht => SX_f ht
  refine ⟨hN, y.ob hN (by omega) (f _ (by omega)) h.o, h.A.ky y hN ⟨f _ (by omega), f _ (by omega), f _ (by omega)⟩, h.W.ky y hN (fun i _ => f _ (by omega)), fun j hj => ?_, h.S.ky y hN (fun i _ => f _ (by omega)), y.ob hN (by omega) (f _ (by omega)) h.D, h.F.ky y hN (fun t _ _ _ => f _ (by omega))⟩
  by_cases q : j = i
  · subst q; rw [pup_s]; exact ⟨hP, hb, hs⟩
  · rw [pup_n q]; exact ⟨(h.P j hj).1.ky y hN hj ⟨f _ (by omega), fun t h1 h2 => f t (by omega)⟩, (h.P j hj).2⟩
theorem CS.sw (h : CS τ ad w bs ss pb sP sQ ct) {i : Nat} {b s : Int} (hi : i < 3) (hb : GB b) (hs : 0 ≤ s ∧ s ≤ 24) : CS τ ad (wset w (ad (120 + i)) (true, eO 6 [iI b, iI s])) (iup bs i b) (iup ss i s) pb sP sQ ct ∧ KO τ w (wset w (ad (120 + i)) (true, eO 6 [iI b, iI s])) := by
  have hN := h.N.wst (t := 120 + i) (by omega) (true, eO 6 [iI b, iI s])
  have y := KY.wst h.N (t := 120 + i) (by omega) (true, eO 6 [iI b, iI s])
  have f : ∀ t, t ≠ 120 + i → (t == 120 + i) = false := fun t ht => by simpa using ht
  refine ⟨⟨hN, y.ob hN (by omega) (f _ (by omega)) h.o, h.A.ky y hN ⟨f _ (by omega), f _ (by omega), f _ (by omega)⟩, fun j hj => ?_, h.P.ky y hN (fun t _ _ _ => f _ (by omega)), h.S.ky y hN (fun i _ => f _ (by omega)), y.ob hN (by omega) (f _ (by omega)) h.D, h.F.ky y hN (fun t _ _ _ => f _ (by omega))⟩, KO.wst h.N (by omega) _⟩
  by_cases q : j = i
  · subst q; rw [iup_s, iup_s]; exact ⟨wset_s, hb, hs⟩
  · rw [iup_n q, iup_n q]; exact ⟨y.ob hN (by omega) (f _ (by omega)) (h.W j hj).1, (h.W j hj).2⟩
def nup (f : Nat → Nat) (i x : Nat) : Nat → Nat := fun j => if j = i then x else f j
theorem nup_s {f : Nat → Nat} {i x : Nat} : nup f i x i = x := if_pos rfl
theorem nup_n {f : Nat → Nat} {i j x : Nat} (h : j ≠ i) : nup f i x j = f j := if_neg h
theorem CS.sp (h : CS τ ad w bs ss pb sP sQ ct) {i p k : Nat} (hi : i < 5) (hV : SV p k) : CS τ ad (wset w (ad (130 + i)) (true, oS p k)) bs ss pb (nup sP i p) (nup sQ i k) ct ∧ KO τ w (wset w (ad (130 + i)) (true, oS p k)) := by
  have hN := h.N.wst (t := 130 + i) (by omega) (true, oS p k)
  have y := KY.wst h.N (t := 130 + i) (by omega) (true, oS p k)
  have f : ∀ t, t ≠ 130 + i → (t == 130 + i) = false := fun t ht => by simpa using ht
  refine ⟨⟨hN, y.ob hN (by omega) (f _ (by omega)) h.o, h.A.ky y hN ⟨f _ (by omega), f _ (by omega), f _ (by omega)⟩, h.W.ky y hN (fun i _ => f _ (by omega)), h.P.ky y hN (fun t _ _ _ => f _ (by omega)), fun j hj => ?_, y.ob hN (by omega) (f _ (by omega)) h.D, h.F.ky y hN (fun t _ _ _ => f _ (by omega))⟩, KO.wst h.N (by omega) _⟩
  by_cases q : j = i
  · subst q; rw [nup_s, nup_s]; exact ⟨wset_s, hV⟩
  · rw [nup_n q, nup_n q]; exact ⟨y.ob hN (by omega) (f _ (by omega)) (h.S j hj).1, (h.S j hj).2⟩
theorem CS.so (h : CS τ ad w bs ss pb sP sQ ct) (ct' : Nat → Int) : CS τ ad (wset w (ad 100) (true, oX ad ct')) bs ss pb sP sQ ct' ∧ KO τ w (wset w (ad 100) (true, oX ad ct')) := by
  have hN := h.N.wst (t := 100) (by omega) (true, oX ad ct')
  have y := KY.wst h.N (t := 100) (by omega) (true, oX ad ct')
  have f : ∀ t, t ≠ 100 → (t == 100) = false := fun t ht => by simpa using ht
  exact ⟨⟨hN, wset_s, h.A.ky y hN ⟨f _ (by omega), f _ (by omega), f _ (by omega)⟩, h.W.ky y hN (fun i _ => f _ (by omega)), h.P.ky y hN (fun t _ _ _ => f _ (by omega)), h.S.ky y hN (fun i _ => f _ (by omega)), y.ob hN (by omega) (f _ (by omega)) h.D, h.F.ky y hN (fun t _ _ _ => f _ (by omega))⟩, KO.wst h.N (by omega) _⟩
theorem NS.kp (h : NS τ ad w) (k : ∀ a x, 100 ≤ τ a → w.2 a = some x → w'.2 a = some x) : NS τ ad w' := by
  obtain ⟨g, hg1, hg2⟩ := h.2.2
  refine ⟨h.1, fun i hi => (h.W hi).kp (fun q x hq e => k q x ?_ e), g, k _ _ (by rw [h.t 340 (by omega)]; omega) hg1, hg2⟩
  rcases hq with r | r
  · rw [r, h.to hi]; omega
  · rw [r, h.tr hi]; omega
theorem CS.kp (h : CS τ ad w bs ss pb sP sQ ct) (k : ∀ a x, 100 ≤ τ a → w.2 a = some x → w'.2 a = some x) (h1 : w.1 ≤ w'.1) : CS τ ad w' bs ss pb sP sQ ct := by
  have hN := h.N.kp k
  have t : ∀ {s : Nat} {x : WdE}, 100 ≤ s ∧ s ≤ 340 → w.2 (ad s) = some x → w'.2 (ad s) = some x := fun {s} {x} hs e => k _ _ (by rw [h.N.t s hs]; exact hs.1) e
  have n : ∀ {j : Nat} {z : Int}, j < 70 → NW ad w j z → NW ad w' j z := fun {j} {z} hj e => e.k (fun x q => t (s := 200 + 2 * j) (by omega) q) (fun x q => t (s := 201 + 2 * j) (by omega) q)
  obtain ⟨⟨R1, a1, b1⟩, ⟨R2, a2, b2⟩, ⟨R3, a3, b3⟩⟩ := h.A
  obtain ⟨fb, fr, m, d, a, ⟨h1, h2, h3, h4, ⟨R, h5, h6⟩, ⟨R2', h7, h8⟩⟩, g⟩ := h.F
  exact ⟨hN, t (by omega) h.o, ⟨⟨R1, t (by omega) a1, b1⟩, ⟨R2, t (by omega) a2, b2⟩, ⟨R3, t (by omega) a3, b3⟩⟩, fun i hi => ⟨t (by omega) (h.W i hi).1, (h.W i hi).2⟩, fun i hi => ⟨⟨t (s := 140 + i) (by omega) (h.P i hi).1.1, n (by omega) (h.P i hi).1.2.1, n (by omega) (h.P i hi).1.2.2⟩, (h.P i hi).2⟩, fun i hi => ⟨t (by omega) (h.S i hi).1, (h.S i hi).2⟩, t (by omega) h.D,
    ⟨fb, fr, m, d, a, ⟨t (s := 104) (by omega) h1, t (s := 105) (by omega) h2, t (s := 106) (by omega) h3, t (s := 107) (by omega) h4, ⟨R, t (s := 108) (by omega) h5, h6⟩, ⟨R2', t (s := 109) (by omega) h7, h8⟩⟩, g.1.imp id (fun q => ⟨q.1, fun i hi => ⟨n (by omega) (q.2 i hi).1, n (by omega) (q.2 i hi).2⟩⟩), g.2⟩⟩
theorem CS.ke (h : CS τ ad w bs ss pb sP sQ ct) (k : Keep τ w w') : CS τ ad w' bs ss pb sP sQ ct := h.kp k.2 k.1
theorem CS.big (h : CS τ ad w bs ss pb sP sQ ct) (h1 : w.1 ≤ w'.1) (h2 : w'.2 = w.2) : CS τ ad w' bs ss pb sP sQ ct := h.kp (fun a x _ e => by rw [h2]; exact e) h1
theorem CS.fr (h : CS τ ad w bs ss pb sP sQ ct) (g : Fr w w') (hw : wF w) : CS τ ad w' bs ss pb sP sQ ct := h.kp (fun a x _ e => by rw [g.2 a (hw a x e)]; exact e) g.1
end
/-! addresses with no thing behind them move up with the world -/
def us (t : Nat) : Bool := decide (t ≤ 110) || (decide (120 ≤ t) && decide (t < 123)) || (decide (130 ≤ t) && decide (t < 135)) || (decide (140 ≤ t) && decide (t < 146)) || (decide (200 ≤ t) && decide (t ≤ 340))
theorem us_i {t : Nat} : us t = true ↔ t ≤ 110 ∨ (120 ≤ t ∧ t < 123) ∨ (130 ≤ t ∧ t < 135) ∨ (140 ≤ t ∧ t < 146) ∨ (200 ≤ t ∧ t ≤ 340) := by
  unfold us
  simp only [Bool.or_eq_true, Bool.and_eq_true, decide_eq_true_eq]
  omega
def adm (ad : Nat → Nat) (N : Nat) : Nat → Nat := fun t => if us t = true then ad t else N + t
def tam (τ : Nat → Nat) (N : Nat) : Nat → Nat := fun a => if a < N then τ a else a - N
theorem adm_u {ad : Nat → Nat} {N t : Nat} (h : t ≤ 110 ∨ (120 ≤ t ∧ t < 123) ∨ (130 ≤ t ∧ t < 135) ∨ (140 ≤ t ∧ t < 146) ∨ (200 ≤ t ∧ t ≤ 340)) : adm ad N t = ad t := if_pos (us_i.mpr h)
theorem CS.lt {τ ad : Nat → Nat} {w : Wd} {bs ss : Nat → Int} {pb : Nat → PT} {sP sQ : Nat → Nat} {ct : Nat → Int} (h : CS τ ad w bs ss pb sP sQ ct) (hw : wF w) {t : Nat} (ht : 100 ≤ t) (hu : us t = true) : ad t < w.1 := by
  have hu := us_i.mp hu
  obtain ⟨⟨R1, a1, b1⟩, ⟨R2, a2, b2⟩, ⟨R3, a3, b3⟩⟩ := h.A
  obtain ⟨fb, fr, m, d, a, ⟨h1, h2, h3, h4, ⟨R, h5, h6⟩, ⟨R2', h7, h8⟩⟩, g⟩ := h.F
  obtain ⟨gg, hg1, hg2⟩ := h.N.2.2
  by_cases c : t < 120
  · rcases (show t = 100 ∨ t = 101 ∨ t = 102 ∨ t = 103 ∨ t = 104 ∨ t = 105 ∨ t = 106 ∨ t = 107 ∨ t = 108 ∨ t = 109 ∨ t = 110 by omega) with q | q | q | q | q | q | q | q | q | q | q <;> subst q
    · exact hw _ _ h.o
    · exact hw _ _ a1
    · exact hw _ _ a2
    · exact hw _ _ a3
    · exact hw _ _ h1
    · exact hw _ _ h2
    · exact hw _ _ h3
    · exact hw _ _ h4
    · exact hw _ _ h5
    · exact hw _ _ h7
    · exact hw _ _ h.D
  · by_cases c2 : t < 200
    · rcases (show (120 ≤ t ∧ t < 123) ∨ (130 ≤ t ∧ t < 135) ∨ (140 ≤ t ∧ t < 146) by omega) with q | q | q
      · have := (h.W (t - 120) (by omega)).1
        rw [show 120 + (t - 120) = t by omega] at this
        exact hw _ _ this
      · have := (h.S (t - 130) (by omega)).1
        rw [show 130 + (t - 130) = t by omega] at this
        exact hw _ _ this
      · have := (h.P (t - 140) (by omega)).1.1
        unfold PO at this
        rw [show 140 + (t - 140) = t by omega] at this
        exact hw _ _ this
    · by_cases c3 : t = 340
      · subst c3; exact hw _ _ hg1
      · obtain ⟨f, uu, bl, e1, e2, e3⟩ := h.N.W (j := (t - 200) / 2) (by omega)
        rcases (show t % 2 = 0 ∨ t % 2 = 1 by omega) with q | q
        · have e : wo ad ((t - 200) / 2) = ad t := by unfold wo; rw [show 200 + 2 * ((t - 200) / 2) = t by omega]
          rw [e] at e1
          exact hw _ _ e1
        · have e : wr ad ((t - 200) / 2) = ad t := by unfold wr; rw [show 201 + 2 * ((t - 200) / 2) = t by omega]
          rw [e] at e2
          exact hw _ _ e2
theorem CS.retag {τ τ' ad : Nat → Nat} {w : Wd} {bs ss : Nat → Int} {pb : Nat → PT} {sP sQ : Nat → Nat} {ct : Nat → Int} {N : Nat} (h : CS τ ad w bs ss pb sP sQ ct) (hu : ∀ t, 100 ≤ t → us t = true → ad t < N ∧ τ' (ad t) = τ (ad t)) : CS (tam τ' N) (adm ad N) w bs ss pb sP sQ ct := by
  have eo : ∀ j, j < 70 → wo (adm ad N) j = wo ad j := fun j hj => by unfold wo; exact adm_u (by omega)
  have er : ∀ j, j < 70 → wr (adm ad N) j = wr ad j := fun j hj => by unfold wr; exact adm_u (by omega)
  have ea : ∀ t, t ≤ 110 → adm ad N t = ad t := fun t ht => adm_u (Or.inl ht)
  have eX : oX (adm ad N) ct = oX ad ct := by
    unfold oX
    rw [ea 101 (by omega), ea 102 (by omega), ea 103 (by omega), ea 104 (by omega), ea 110 (by omega), adm_u (t := 143) (by omega), adm_u (t := 144) (by omega), adm_u (t := 145) (by omega), adm_u (t := 133) (by omega), adm_u (t := 134) (by omega)]
  obtain ⟨⟨R1, a1, b1⟩, ⟨R2, a2, b2⟩, ⟨R3, a3, b3⟩⟩ := h.A
  obtain ⟨fb, fr, m, d, a, ⟨h1, h2, h3, h4, ⟨R, h5, h6⟩, ⟨R2', h7, h8⟩⟩, g⟩ := h.F
  obtain ⟨gg, hg1, hg2⟩ := h.N.2.2
  refine ⟨⟨fun t t1 t2 => ?_, fun j hj => ?_, gg, ?_, hg2⟩, ?_, ⟨⟨R1, ?_, fun i hi => ?_⟩, ⟨R2, ?_, fun i hi => ?_⟩, ⟨R3, ?_, fun i hi => ?_⟩⟩, fun i hi => ?_, fun i hi => ?_, fun i hi => ?_, ?_, ⟨fb, fr, m, d, a, ⟨?_, ?_, ?_, ?_, ⟨R, ?_, fun k hk => ?_⟩, ⟨R2', ?_, fun k hk => ?_⟩⟩, g.1.imp id (fun q => ⟨q.1, fun k hk => ⟨?_, ?_⟩⟩), g.2⟩⟩
  · by_cases q : us t = true
    · rw [show adm ad N t = ad t from if_pos q]
      obtain ⟨g1, g2⟩ := hu t t1 q
      rw [show tam τ' N (ad t) = τ' (ad t) from if_pos g1, g2]
      exact h.N.t t ⟨t1, t2⟩
    · rw [show adm ad N t = N + t from if_neg q, show tam τ' N (N + t) = N + t - N from if_neg (by omega)]
      omega
  · rw [eo j hj, er j hj]; exact h.N.W hj
  · rw [adm_u (by omega)]; exact hg1
  · rw [ea 100 (by omega), eX]; exact h.o
  · rw [ea 101 (by omega)]; exact a1
  · rw [adm_u (by omega)]; exact b1 i hi
  · rw [ea 102 (by omega)]; exact a2
  · rw [adm_u (by omega)]; exact b2 i hi
  · rw [ea 103 (by omega)]; exact a3
  · rw [adm_u (by omega)]; exact b3 i hi
  · rw [adm_u (by omega)]; exact h.W i hi
  · have hp := h.P i hi
    refine ⟨⟨?_, ?_, ?_⟩, hp.2⟩
    · have := hp.1.1
      unfold PO at this ⊢
      rw [adm_u (t := 140 + i) (by omega), eo _ (by omega), eo _ (by omega)]; exact this
    · have := hp.1.2.1
      unfold NW at this ⊢
      rw [eo _ (by omega), er _ (by omega)]; exact this
    · have := hp.1.2.2
      unfold NW at this ⊢
      rw [eo _ (by omega), er _ (by omega)]; exact this
  · rw [adm_u (by omega)]; exact h.S i hi
  · unfold oD
    rw [ea 110 (by omega), eo _ (by omega), eo _ (by omega), eo _ (by omega), eo _ (by omega), adm_u (t := 340) (by omega)]; exact h.D
  · rw [ea 104 (by omega), ea 105 (by omega), ea 106 (by omega), ea 107 (by omega), ea 108 (by omega), ea 109 (by omega)]; exact h1
  · rw [ea 105 (by omega)]; exact h2
  · rw [ea 106 (by omega)]; exact h3
  · rw [ea 107 (by omega)]; exact h4
  · rw [ea 108 (by omega)]; exact h5
  · rw [eo _ (by omega)]; exact h6 k hk
  · rw [ea 109 (by omega)]; exact h7
  · rw [eo _ (by omega)]; exact h8 k hk
  · have := (q.2 k hk).1
    unfold NW at this ⊢
    rw [eo _ (by omega), er _ (by omega)]; exact this
  · have := (q.2 k hk).2
    unfold NW at this ⊢
    rw [eo _ (by omega), er _ (by omega)]; exact this
