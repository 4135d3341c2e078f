/-! both sides at once: what holds between two calls of the law -/
def GD (ba st pm le ri : Nat → Int) (sp : Nat → Nat → Int) (cm : Nat → Int) (th : Int) (t : Nat) : Prop := (∀ i, i < 3 → GB (ba i)) ∧ (∀ i, i < 3 → 0 ≤ st i ∧ st i ≤ 24) ∧ HPp pm le ri ∧ HZp sp ∧ (0 ≤ th ∧ th ≤ 2) ∧ (∀ i, i < 5 → 0 ≤ cm i ∧ cm i ≤ (t : Int))
def RLx (bs ss : Nat → Int) (pb : Nat → PT) (P Q : Nat → Nat) (ct ba st pm le ri : Nat → Int) (sp : Nat → Nat → Int) (cm : Nat → Int) : Prop := (∀ i, i < 3 → bs i = ba i ∧ ss i = st i ∧ SpR (sp i) (P i) (Q i)) ∧ (∀ i, i < 3 → pb i = (pm i, le i, ri i)) ∧ (∀ i, i < 5 → ct i = cm i)
def OU (w : Wd) (o : Nat) : Prop := ∃ (n : Int) (s : Value), w.2 o = some (true, eO 9 [jJ n, s])
def INV (x m o t : Nat) (w : Wd) : Prop := ∃ (τ ad : Nat → Nat) (bs ss : Nat → Int) (pb : Nat → PT) (P Q : Nat → Nat) (ct : Nat → Int) (A : MA) (th : Int) (ba st pm le ri : Nat → Int) (sp : Nat → Nat → Int) (cm : Nat → Int),
  CS τ ad w bs ss pb P Q ct ∧ MSx τ w m A th ba st pm le ri sp cm ∧ ad 100 = x ∧ τ o = 199 ∧ OU w o ∧ GD ba st pm le ri sp cm th t ∧ RLx bs ss pb P Q ct ba st pm le ri sp cm
theorem GD.up {ba st pm le ri : Nat → Int} {sp : Nat → Nat → Int} {cm : Nat → Int} {th : Int} {t : Nat} (h : GD ba st pm le ri sp cm th t) : GD ba st pm le ri sp cm th (t + 1) := ⟨h.1, h.2.1, h.2.2.1, h.2.2.2.1, h.2.2.2.2.1, fun i hi => ⟨(h.2.2.2.2.2 i hi).1, by have := (h.2.2.2.2.2 i hi).2; omega⟩⟩
theorem cm_up {cm : Nat → Int} {t : Nat} (h : ∀ i, i < 5 → 0 ≤ cm i ∧ cm i ≤ (t : Int)) (j : Nat) : ∀ i, i < 5 → 0 ≤ iup cm j (cm j + 1) i ∧ iup cm j (cm j + 1) i ≤ ((t + 1 : Nat) : Int) := fun i hi => by
  have := h i hi
  by_cases q : i = j
  · subst q; rw [iup_s]; omega
  · rw [iup_n q]; omega
theorem cm_eq5 {cm : Nat → Int} {t : Nat} (h : ∀ i, i < 5 → 0 ≤ cm i ∧ cm i ≤ (t : Int)) : ∀ i, i < 5 → 0 ≤ cm i ∧ cm i ≤ ((t + 1 : Nat) : Int) := fun i hi => by
  have := h i hi
  omega
/-- the class's state and the model's, after the model's call -/
theorem inv_md {x m o t : Nat} {w1 w2 : Wd} {τ τ' ad : Nat → Nat} {bs ss : Nat → Int} {pb : Nat → PT} {P Q : Nat → Nat} {ct : Nat → Int} {A : MA} {th : Int} {ba st pm le ri : Nat → Int} {sp : Nat → Nat → Int} {cm : Nat → Int} (f1 : wF w1) (f2 : wF w2)
    (hC : CS τ ad w1 bs ss pb P Q ct) (hx : ad 100 = x) (ho : τ o = 199) (hO : OU w1 o) (hk : Keep τ w1 w2) (ht : ∀ a, a < w1.1 → τ' a = τ a) (hM : MSx τ' w2 m A th ba st pm le ri sp cm) (hg : GD ba st pm le ri sp cm th t) (hr : RLx bs ss pb P Q ct ba st pm le ri sp cm) : INV x m o t w2 := by
  obtain ⟨n, s, hO⟩ := hO
  have hC2 := hC.ke hk
  have lt := fun t (h1 : 100 ≤ t) (h2 : us t = true) => hC.lt f1 h1 h2
  have lo := f1 _ _ hO
  refine ⟨tam τ' w2.1, adm ad w2.1, bs, ss, pb, P, Q, ct, A, th, ba, st, pm, le, ri, sp, cm, hC2.retag (fun t h1 h2 => ⟨Nat.lt_of_lt_of_le (lt t h1 h2) hk.1, ht _ (lt t h1 h2)⟩), hM.tag f2 (fun a ha => if_pos ha), ?_, ?_, ⟨n, s, hk.2 o _ (by omega) hO⟩, hg, hr⟩
  · rw [adm_u (by omega)]; exact hx
  · show (if o < w2.1 then τ' o else o - w2.1) = 199
    rw [if_pos (Nat.lt_of_lt_of_le lo hk.1), ht o lo]
    exact ho
/-- what a call leaves that changes no walk and no split -/
def CALM (τ ad : Nat → Nat) (o : Nat) (w w1 : Wd) (bs ss : Nat → Int) (pb : Nat → PT) (P Q : Nat → Nat) (ct : Nat → Int) : Prop := ∃ (pb' : Nat → PT) (P' Q' : Nat → Nat), CS τ ad w1 bs ss pb' P' Q' ct ∧ (∀ j, j < 3 → P' j = P j ∧ Q' j = Q j) ∧ (∀ j, j < 3 → pb' j = pb j) ∧ KM τ w w1 ∧ OU w1 o
theorem calm_same {τ ad : Nat → Nat} {w w' : Wd} {o : Nat} {bs ss : Nat → Int} {pb : Nat → PT} {P Q : Nat → Nat} {ct : Nat → Int} (hC : CS τ ad w bs ss pb P Q ct) (hO : OU w o) (h1 : w.1 ≤ w'.1) (h2 : w'.2 = w.2) : CALM τ ad o w w' bs ss pb P Q ct := by
  obtain ⟨n, s, hO⟩ := hO
  exact ⟨pb, P, Q, hC.big h1 h2, fun _ _ => ⟨rfl, rfl⟩, fun _ _ => rfl, (KO.big h1 h2).km, n, s, by rw [h2]; exact hO⟩
theorem calm_set {τ ad : Nat → Nat} {w u : Wd} {o : Nat} {bs ss : Nat → Int} {pb pb' : Nat → PT} {P Q P' Q' : Nat → Nat} {ct : Nat → Int} (hC : CS τ ad u bs ss pb' P' Q' ct) (hp : ∀ j, j < 3 → P' j = P j ∧ Q' j = Q j) (hc : ∀ j, j < 3 → pb' j = pb j) (hk : KO τ w u) (ho : τ o = 199) (n : Int) (s : Value) : CALM τ ad o w (wset u o (true, eO 9 [jJ n, s])) bs ss pb P Q ct :=
  ⟨pb', P', Q', hC.out ho _, hp, hc, hk.km.out ho _, n, s, wset_s⟩
theorem calm_rl {bs ss : Nat → Int} {pb pb' : Nat → PT} {P Q P' Q' : Nat → Nat} {ct ba st pm le ri cm : Nat → Int} {sp : Nat → Nat → Int} (hr : RLx bs ss pb P Q ct ba st pm le ri sp cm) (hp : ∀ j, j < 3 → P' j = P j ∧ Q' j = Q j) (hc : ∀ j, j < 3 → pb' j = pb j) : RLx bs ss pb' P' Q' ct ba st pm le ri sp cm :=
  ⟨fun i hi => by
    obtain ⟨a, b, c⟩ := hr.1 i hi
    obtain ⟨d, e⟩ := hp i hi
    exact ⟨a, b, by rw [d, e]; exact c⟩, fun i hi => (hc i hi).trans (hr.2.1 i hi), hr.2.2⟩
/-- a calm call of the class, then an asking call of the model -/
theorem inv_ask {x m o t : Nat} {w w1 w2 : Wd} {τ ad : Nat → Nat} {bs ss : Nat → Int} {pb : Nat → PT} {P Q : Nat → Nat} {ct : Nat → Int} {A : MA} {th th' : Int} {ba st pm le ri : Nat → Int} {sp : Nat → Nat → Int} {cm : Nat → Int} (f1 : wF w1) (f2 : wF w2)
    (hc : CALM τ ad o w w1 bs ss pb P Q ct) (hx : ad 100 = x) (ho : τ o = 199) (hk : Keep τ w1 w2) (hM : MSx τ w2 m A th' ba st pm le ri sp cm) (h02 : 0 ≤ th' ∧ th' ≤ 2) (hg : GD ba st pm le ri sp cm th t) (hr : RLx bs ss pb P Q ct ba st pm le ri sp cm) : INV x m o (t + 1) w2 := by
  obtain ⟨pb', P', Q', hC, hp, hpb, hkm, hO⟩ := hc
  exact inv_md f1 f2 hC hx ho hO hk (fun _ _ => rfl) hM ⟨hg.1, hg.2.1, hg.2.2.1, hg.2.2.2.1, h02, cm_eq5 hg.2.2.2.2.2⟩ (calm_rl hr hp hpb)
set_option maxHeartbeats 1000000 in
theorem a_part {τ ad : Nat → Nat} {w w' : Wd} {o : Nat} {bs ss : Nat → Int} {pb : Nat → PT} {P Q : Nat → Nat} {ct : Nat → Int} (hC : CS τ ad w bs ss pb P Q ct) (ho : τ o = 199) (hO : OU w o) {vi z : Int} {r' : Option Value} (h : (¬ ((0 ≤ vi ∧ vi ≤ 2)) ∧ r' = some (iI 1) ∧ w.1 ≤ w'.1 ∧ w'.2 = w.2) ∨ (((0 ≤ vi ∧ vi ≤ 2)) ∧ ¬ ((0 ≤ z ∧ z ≤ 5)) ∧ r' = some (iI 2) ∧ w.1 ≤ w'.1 ∧ w'.2 = w.2) ∨ (((0 ≤ vi ∧ vi ≤ 2)) ∧ ((0 ≤ z ∧ z ≤ 5)) ∧ r' = some (iI 0) ∧ ∃ (i : Nat), vi = (i : Int) ∧ ∃ (zz : Int) (uu : Wd) (sv : Value), (-2147483648 ≤ zz ∧ zz < 2147483648) ∧ (∃ r, (some (iI zz)) = some (iI (prV (bs i) r (ss i) z)) ∧ RT (bs i) r ∧ CS τ ad uu (bs) (ss) (pb) (P) (Q) (ct) ∧ KO τ w uu) ∧ w' = wset uu o (true, eO 9 [jJ zz, sv]))) : (∃ k : Int, r' = some (iI k) ∧ 0 ≤ k ∧ k ≤ 2) ∧ CALM τ ad o w w' bs ss pb P Q ct := by
  rcases h with h | h | h
  · obtain ⟨-, rfl, h1, h2⟩ := h
    exact ⟨⟨1, rfl, by omega, by omega⟩, calm_same hC hO h1 h2⟩
  · obtain ⟨-, -, rfl, h1, h2⟩ := h
    exact ⟨⟨2, rfl, by omega, by omega⟩, calm_same hC hO h1 h2⟩
  · obtain ⟨-, -, rfl, i, -, zz, uu, sv, -, hp, rfl⟩ := h
    refine ⟨⟨0, rfl, by omega, by omega⟩, ?_⟩
    obtain ⟨r, -, -, hC2, hk2⟩ := hp
    exact calm_set hC2 (fun _ _ => ⟨rfl, rfl⟩) (fun _ _ => rfl) hk2 ho _ _
set_option maxHeartbeats 1000000 in
theorem a_walkText {τ ad : Nat → Nat} {w w' : Wd} {o : Nat} {bs ss : Nat → Int} {pb : Nat → PT} {P Q : Nat → Nat} {ct : Nat → Int} (hC : CS τ ad w bs ss pb P Q ct) (ho : τ o = 199) (hO : OU w o) {vi z rx : Int} {r' : Option Value} (h : (¬ ((0 ≤ vi ∧ vi ≤ 2)) ∧ r' = some (iI 1) ∧ w.1 ≤ w'.1 ∧ w'.2 = w.2) ∨ (((0 ≤ vi ∧ vi ≤ 2)) ∧ ¬ ((0 ≤ z ∧ z ≤ 3) ∧ (2 ≤ rx ∧ rx ≤ 16)) ∧ r' = some (iI 2) ∧ w.1 ≤ w'.1 ∧ w'.2 = w.2) ∨ (((0 ≤ vi ∧ vi ≤ 2)) ∧ ((0 ≤ z ∧ z ≤ 3) ∧ (2 ≤ rx ∧ rx ≤ 16)) ∧ r' = some (iI 0) ∧ ∃ (i : Nat), vi = (i : Int) ∧ ∃ (qq : Nat) (uu : Wd) (n : Int), ((∃ s : Nat, (some (Value.ref qq)) = some (Value.ref s)) ∧ CS τ ad uu (bs) (ss) (pb) (P) (Q) (ct) ∧ KO τ w uu) ∧ w' = wset uu o (true, eO 9 [jJ n, .ref qq]))) : (∃ k : Int, r' = some (iI k) ∧ 0 ≤ k ∧ k ≤ 2) ∧ CALM τ ad o w w' bs ss pb P Q ct := by
  rcases h with h | h | h
  · obtain ⟨-, rfl, h1, h2⟩ := h
    exact ⟨⟨1, rfl, by omega, by omega⟩, calm_same hC hO h1 h2⟩
  · obtain ⟨-, -, rfl, h1, h2⟩ := h
    exact ⟨⟨2, rfl, by omega, by omega⟩, calm_same hC hO h1 h2⟩
  · obtain ⟨-, -, rfl, i, -, qq, uu, nn, hp, rfl⟩ := h
    refine ⟨⟨0, rfl, by omega, by omega⟩, ?_⟩
    obtain ⟨-, hC2, hk2⟩ := hp
    exact calm_set hC2 (fun _ _ => ⟨rfl, rfl⟩) (fun _ _ => rfl) hk2 ho _ _
set_option maxHeartbeats 1000000 in
theorem a_test {τ ad : Nat → Nat} {w w' : Wd} {o : Nat} {bs ss : Nat → Int} {pb : Nat → PT} {P Q : Nat → Nat} {ct : Nat → Int} (hC : CS τ ad w bs ss pb P Q ct) (ho : τ o = 199) (hO : OU w o) {vi z : Int} {r' : Option Value} (h : (¬ ((0 ≤ vi ∧ vi ≤ 2)) ∧ r' = some (iI 1) ∧ w.1 ≤ w'.1 ∧ w'.2 = w.2) ∨ (((0 ≤ vi ∧ vi ≤ 2)) ∧ ¬ ((0 ≤ z ∧ z ≤ 2)) ∧ r' = some (iI 2) ∧ w.1 ≤ w'.1 ∧ w'.2 = w.2) ∨ (((0 ≤ vi ∧ vi ≤ 2)) ∧ ((0 ≤ z ∧ z ≤ 2)) ∧ r' = some (iI 0) ∧ ∃ (i : Nat), vi = (i : Int) ∧ ∃ (zz : Int) (uu : Wd) (sv : Value), (-2147483648 ≤ zz ∧ zz < 2147483648) ∧ ((∃ x : Int, (some (iI zz)) = some (iI x) ∧ ∃ r, RT (bs i) r ∧ x = tstV (bs i) r (ss i).toNat z) ∧ CS τ ad uu (bs) (ss) (pb) (P) (Q) (ct) ∧ KO τ w uu) ∧ w' = wset uu o (true, eO 9 [jJ zz, sv]))) : (∃ k : Int, r' = some (iI k) ∧ 0 ≤ k ∧ k ≤ 2) ∧ CALM τ ad o w w' bs ss pb P Q ct := by
  rcases h with h | h | h
  · obtain ⟨-, rfl, h1, h2⟩ := h
    exact ⟨⟨1, rfl, by omega, by omega⟩, calm_same hC hO h1 h2⟩
  · obtain ⟨-, -, rfl, h1, h2⟩ := h
    exact ⟨⟨2, rfl, by omega, by omega⟩, calm_same hC hO h1 h2⟩
  · obtain ⟨-, -, rfl, i, -, zz, uu, sv, -, hp, rfl⟩ := h
    refine ⟨⟨0, rfl, by omega, by omega⟩, ?_⟩
    obtain ⟨-, hC2, hk2⟩ := hp
    exact calm_set hC2 (fun _ _ => ⟨rfl, rfl⟩) (fun _ _ => rfl) hk2 ho _ _
set_option maxHeartbeats 1000000 in
theorem a_walkBits {τ ad : Nat → Nat} {w w' : Wd} {o : Nat} {bs ss : Nat → Int} {pb : Nat → PT} {P Q : Nat → Nat} {ct : Nat → Int} (hC : CS τ ad w bs ss pb P Q ct) (ho : τ o = 199) (hO : OU w o) {vi y z : Int} {r' : Option Value} (h : (¬ ((0 ≤ vi ∧ vi ≤ 2)) ∧ r' = some (iI 1) ∧ w.1 ≤ w'.1 ∧ w'.2 = w.2) ∨ (((0 ≤ vi ∧ vi ≤ 2)) ∧ ¬ ((0 ≤ z ∧ z ≤ 2)) ∧ r' = some (iI 2) ∧ w.1 ≤ w'.1 ∧ w'.2 = w.2) ∨ (((0 ≤ vi ∧ vi ≤ 2)) ∧ ((0 ≤ z ∧ z ≤ 2)) ∧ r' = some (iI 0) ∧ ∃ (i : Nat), vi = (i : Int) ∧ ∃ (zz : Int) (uu : Wd) (sv : Value), (-2147483648 ≤ zz ∧ zz < 2147483648) ∧ ((∃ x : Int, (some (iI zz)) = some (iI x) ∧ ∃ r, RT (bs i) r ∧ x = bitV (if y = 1 then (pq (bs i) r 1 r (ss i).toNat).1 else (pq (bs i) r 0 1 (ss i).toNat).1) z) ∧ CS τ ad uu (bs) (ss) (pb) (P) (Q) (ct) ∧ KO τ w uu) ∧ w' = wset uu o (true, eO 9 [jJ zz, sv]))) : (∃ k : Int, r' = some (iI k) ∧ 0 ≤ k ∧ k ≤ 2) ∧ CALM τ ad o w w' bs ss pb P Q ct := by
  rcases h with h | h | h
  · obtain ⟨-, rfl, h1, h2⟩ := h
    exact ⟨⟨1, rfl, by omega, by omega⟩, calm_same hC hO h1 h2⟩
  · obtain ⟨-, -, rfl, h1, h2⟩ := h
    exact ⟨⟨2, rfl, by omega, by omega⟩, calm_same hC hO h1 h2⟩
  · obtain ⟨-, -, rfl, i, -, zz, uu, sv, -, hp, rfl⟩ := h
    refine ⟨⟨0, rfl, by omega, by omega⟩, ?_⟩
    obtain ⟨-, hC2, hk2⟩ := hp
    exact calm_set hC2 (fun _ _ => ⟨rfl, rfl⟩) (fun _ _ => rfl) hk2 ho _ _
set_option maxHeartbeats 1000000 in
theorem a_bit {τ ad : Nat → Nat} {w w' : Wd} {o : Nat} {bs ss : Nat → Int} {pb : Nat → PT} {P Q : Nat → Nat} {ct : Nat → Int} (hC : CS τ ad w bs ss pb P Q ct) (ho : τ o = 199) (hO : OU w o) {vi y vz : Int} {r' : Option Value} (h : (¬ ((0 ≤ vi ∧ vi ≤ 2)) ∧ r' = some (iI 1) ∧ w.1 ≤ w'.1 ∧ w'.2 = w.2) ∨ (((0 ≤ vi ∧ vi ≤ 2)) ∧ ¬ ((0 ≤ vz ∧ vz ≤ 119)) ∧ r' = some (iI 2) ∧ w.1 ≤ w'.1 ∧ w'.2 = w.2) ∨ (((0 ≤ vi ∧ vi ≤ 2)) ∧ ((0 ≤ vz ∧ vz ≤ 119)) ∧ r' = some (iI 0) ∧ ∃ (i : Nat) (z : Nat), vi = (i : Int) ∧ vz = (z : Int) ∧ ∃ (zz : Int) (uu : Wd) (sv : Value), (-2147483648 ≤ zz ∧ zz < 2147483648) ∧ ((∃ x : Int, (some (iI zz)) = some (iI x) ∧ (x = 0 ∨ x = 1) ∧ ∃ r, RT (bs i) r ∧ x = bI (bt (aB (if y = 1 then (pq (bs i) r 1 r (ss i).toNat).1 else (pq (bs i) r 0 1 (ss i).toNat).1)) z = 1)) ∧ CS τ ad uu (bs) (ss) (pb) (P) (Q) (ct) ∧ KO τ w uu) ∧ w' = wset uu o (true, eO 9 [jJ zz, sv]))) : (∃ k : Int, r' = some (iI k) ∧ 0 ≤ k ∧ k ≤ 2) ∧ CALM τ ad o w w' bs ss pb P Q ct := by
  rcases h with h | h | h
  · obtain ⟨-, rfl, h1, h2⟩ := h
    exact ⟨⟨1, rfl, by omega, by omega⟩, calm_same hC hO h1 h2⟩
  · obtain ⟨-, -, rfl, h1, h2⟩ := h
    exact ⟨⟨2, rfl, by omega, by omega⟩, calm_same hC hO h1 h2⟩
  · obtain ⟨-, -, rfl, i, z, -, -, zz, uu, sv, -, hp, rfl⟩ := h
    refine ⟨⟨0, rfl, by omega, by omega⟩, ?_⟩
    obtain ⟨-, hC2, hk2⟩ := hp
    exact calm_set hC2 (fun _ _ => ⟨rfl, rfl⟩) (fun _ _ => rfl) hk2 ho _ _
set_option maxHeartbeats 1000000 in
theorem a_isRead {τ ad : Nat → Nat} {w w' : Wd} {o : Nat} {bs ss : Nat → Int} {pb : Nat → PT} {P Q : Nat → Nat} {ct : Nat → Int} (hC : CS τ ad w bs ss pb P Q ct) (ho : τ o = 199) (hO : OU w o) {vi z : Int} {r' : Option Value} (h : (¬ ((0 ≤ vi ∧ vi ≤ 2)) ∧ r' = some (iI 1) ∧ w.1 ≤ w'.1 ∧ w'.2 = w.2) ∨ (((0 ≤ vi ∧ vi ≤ 2)) ∧ ¬ ((z = 0 ∨ (2 ≤ z ∧ z ≤ 16))) ∧ r' = some (iI 2) ∧ w.1 ≤ w'.1 ∧ w'.2 = w.2) ∨ (((0 ≤ vi ∧ vi ≤ 2)) ∧ ((z = 0 ∨ (2 ≤ z ∧ z ≤ 16))) ∧ r' = some (iI 0) ∧ ∃ (i : Nat), vi = (i : Int) ∧ ∃ (zz : Int) (uu : Wd) (sv : Value), (-2147483648 ≤ zz ∧ zz < 2147483648) ∧ ((∃ x : Int, (some (iI zz)) = some (iI x) ∧ (x = 0 ∨ x = 1) ∧ x = 1) ∧ CS τ ad uu (bs) (ss) (pb) (P) (Q) (ct) ∧ KO τ w uu) ∧ w' = wset uu o (true, eO 9 [jJ zz, sv]))) : (∃ k : Int, r' = some (iI k) ∧ 0 ≤ k ∧ k ≤ 2) ∧ CALM τ ad o w w' bs ss pb P Q ct := by
  rcases h with h | h | h
  · obtain ⟨-, rfl, h1, h2⟩ := h
    exact ⟨⟨1, rfl, by omega, by omega⟩, calm_same hC hO h1 h2⟩
  · obtain ⟨-, -, rfl, h1, h2⟩ := h
    exact ⟨⟨2, rfl, by omega, by omega⟩, calm_same hC hO h1 h2⟩
  · obtain ⟨-, -, rfl, i, -, zz, uu, sv, -, hp, rfl⟩ := h
    refine ⟨⟨0, rfl, by omega, by omega⟩, ?_⟩
    obtain ⟨-, hC2, hk2⟩ := hp
    exact calm_set hC2 (fun _ _ => ⟨rfl, rfl⟩) (fun _ _ => rfl) hk2 ho _ _
set_option maxHeartbeats 1000000 in
theorem a_isNear {τ ad : Nat → Nat} {w w' : Wd} {o : Nat} {bs ss : Nat → Int} {pb : Nat → PT} {P Q : Nat → Nat} {ct : Nat → Int} (hC : CS τ ad w bs ss pb P Q ct) (ho : τ o = 199) (hO : OU w o) {vi z : Int} {r' : Option Value} (h : (¬ ((0 ≤ vi ∧ vi ≤ 2)) ∧ r' = some (iI 1) ∧ w.1 ≤ w'.1 ∧ w'.2 = w.2) ∨ (((0 ≤ vi ∧ vi ≤ 2)) ∧ ¬ ((1 ≤ z ∧ z ≤ 3)) ∧ r' = some (iI 2) ∧ w.1 ≤ w'.1 ∧ w'.2 = w.2) ∨ (((0 ≤ vi ∧ vi ≤ 2)) ∧ ((1 ≤ z ∧ z ≤ 3)) ∧ r' = some (iI 0) ∧ ∃ (i : Nat), vi = (i : Int) ∧ ∃ (zz : Int) (uu : Wd) (sv : Value), (-2147483648 ≤ zz ∧ zz < 2147483648) ∧ ((∃ x : Int, (some (iI zz)) = some (iI x) ∧ (x = 0 ∨ x = 1) ∧ ∃ r, RT (bs i) r ∧ (x = 1 ∧ nearP (bs i) r z (ss i).toNat ∨ x = 0 ∧ ¬ nearP (bs i) r z (ss i).toNat)) ∧ CS τ ad uu (bs) (ss) (pb) (P) (Q) (ct) ∧ KO τ w uu) ∧ w' = wset uu o (true, eO 9 [jJ zz, sv]))) : (∃ k : Int, r' = some (iI k) ∧ 0 ≤ k ∧ k ≤ 2) ∧ CALM τ ad o w w' bs ss pb P Q ct := by
  rcases h with h | h | h
  · obtain ⟨-, rfl, h1, h2⟩ := h
    exact ⟨⟨1, rfl, by omega, by omega⟩, calm_same hC hO h1 h2⟩
  · obtain ⟨-, -, rfl, h1, h2⟩ := h
    exact ⟨⟨2, rfl, by omega, by omega⟩, calm_same hC hO h1 h2⟩
  · obtain ⟨-, -, rfl, i, -, zz, uu, sv, -, hp, rfl⟩ := h
    refine ⟨⟨0, rfl, by omega, by omega⟩, ?_⟩
    obtain ⟨-, hC2, hk2⟩ := hp
    exact calm_set hC2 (fun _ _ => ⟨rfl, rfl⟩) (fun _ _ => rfl) hk2 ho _ _
set_option maxHeartbeats 1000000 in
theorem a_decimals {τ ad : Nat → Nat} {w w' : Wd} {o : Nat} {bs ss : Nat → Int} {pb : Nat → PT} {P Q : Nat → Nat} {ct : Nat → Int} (hC : CS τ ad w bs ss pb P Q ct) (ho : τ o = 199) (hO : OU w o) {vi vz : Int} {r' : Option Value} (h : (¬ ((0 ≤ vi ∧ vi ≤ 2)) ∧ r' = some (iI 1) ∧ w.1 ≤ w'.1 ∧ w'.2 = w.2) ∨ (((0 ≤ vi ∧ vi ≤ 2)) ∧ ¬ ((0 ≤ vz ∧ vz ≤ 16)) ∧ r' = some (iI 2) ∧ w.1 ≤ w'.1 ∧ w'.2 = w.2) ∨ (((0 ≤ vi ∧ vi ≤ 2)) ∧ ((0 ≤ vz ∧ vz ≤ 16)) ∧ r' = some (iI 0) ∧ ∃ (i : Nat) (z : Nat), vi = (i : Int) ∧ vz = (z : Int) ∧ ∃ (qq : Nat) (uu : Wd) (n : Int), ((∃ s : Nat, (some (Value.ref qq)) = some (Value.ref s)) ∧ CS τ ad uu (bs) (ss) (pb) (P) (Q) (ct) ∧ KO τ w uu) ∧ w' = wset uu o (true, eO 9 [jJ n, .ref qq]))) : (∃ k : Int, r' = some (iI k) ∧ 0 ≤ k ∧ k ≤ 2) ∧ CALM τ ad o w w' bs ss pb P Q ct := by
  rcases h with h | h | h
  · obtain ⟨-, rfl, h1, h2⟩ := h
    exact ⟨⟨1, rfl, by omega, by omega⟩, calm_same hC hO h1 h2⟩
  · obtain ⟨-, -, rfl, h1, h2⟩ := h
    exact ⟨⟨2, rfl, by omega, by omega⟩, calm_same hC hO h1 h2⟩
  · obtain ⟨-, -, rfl, i, z, -, -, qq, uu, nn, hp, rfl⟩ := h
    refine ⟨⟨0, rfl, by omega, by omega⟩, ?_⟩
    obtain ⟨-, hC2, hk2⟩ := hp
    exact calm_set hC2 (fun _ _ => ⟨rfl, rfl⟩) (fun _ _ => rfl) hk2 ho _ _
set_option maxHeartbeats 1000000 in
theorem a_alike {τ ad : Nat → Nat} {w w' : Wd} {o : Nat} {bs ss : Nat → Int} {pb : Nat → PT} {P Q : Nat → Nat} {ct : Nat → Int} (hC : CS τ ad w bs ss pb P Q ct) (ho : τ o = 199) (hO : OU w o) {vi : Int} {r' : Option Value} (h : (¬ ((0 ≤ vi ∧ vi ≤ 2)) ∧ r' = some (iI 1) ∧ w.1 ≤ w'.1 ∧ w'.2 = w.2) ∨ (((0 ≤ vi ∧ vi ≤ 2)) ∧ r' = some (iI 0) ∧ ∃ (i : Nat), vi = (i : Int) ∧ ∃ (zz : Int) (uu : Wd) (sv : Value), (-2147483648 ≤ zz ∧ zz < 2147483648) ∧ ((∃ x : Int, (some (iI zz)) = some (iI x) ∧ ∃ r, RT (bs i) r ∧ ∃ n : Nat, n ≤ 17 ∧ x = (n : Int) - 1 ∧ alkP (bs i) (pq (bs i) r 1 r (ss i).toNat).1 (pq (bs i) r 0 1 (ss i).toNat).1 n) ∧ CS τ ad uu (bs) (ss) (pb) (P) (Q) (ct) ∧ KO τ w uu) ∧ w' = wset uu o (true, eO 9 [jJ zz, sv]))) : (∃ k : Int, r' = some (iI k) ∧ 0 ≤ k ∧ k ≤ 2) ∧ CALM τ ad o w w' bs ss pb P Q ct := by
  rcases h with h | h
  · obtain ⟨-, rfl, h1, h2⟩ := h
    exact ⟨⟨1, rfl, by omega, by omega⟩, calm_same hC hO h1 h2⟩
  · obtain ⟨-, rfl, i, -, zz, uu, sv, -, hp, rfl⟩ := h
    refine ⟨⟨0, rfl, by omega, by omega⟩, ?_⟩
    obtain ⟨-, hC2, hk2⟩ := hp
    exact calm_set hC2 (fun _ _ => ⟨rfl, rfl⟩) (fun _ _ => rfl) hk2 ho _ _
set_option maxHeartbeats 1000000 in
theorem a_rootText {τ ad : Nat → Nat} {w w' : Wd} {o : Nat} {bs ss : Nat → Int} {pb : Nat → PT} {P Q : Nat → Nat} {ct : Nat → Int} (hC : CS τ ad w bs ss pb P Q ct) (ho : τ o = 199) (hO : OU w o) {b vz : Int} {r' : Option Value} (h : (¬ ((1 ≤ b ∧ b ≤ 99) ∧ (0 ≤ vz ∧ vz ≤ 16)) ∧ r' = some (iI 1) ∧ w.1 ≤ w'.1 ∧ w'.2 = w.2) ∨ (((1 ≤ b ∧ b ≤ 99) ∧ (0 ≤ vz ∧ vz ≤ 16)) ∧ r' = some (iI 0) ∧ ∃ (z : Nat), vz = (z : Int) ∧ ∃ (qq : Nat) (uu : Wd) (n : Int), ((∃ s : Nat, (some (Value.ref qq)) = some (Value.ref s)) ∧ CS τ ad uu (bs) (ss) (pb) (P) (Q) (ct) ∧ KO τ w uu) ∧ w' = wset uu o (true, eO 9 [jJ n, .ref qq]))) : (∃ k : Int, r' = some (iI k) ∧ 0 ≤ k ∧ k ≤ 2) ∧ CALM τ ad o w w' bs ss pb P Q ct := by
  rcases h with h | h
  · obtain ⟨-, rfl, h1, h2⟩ := h
    exact ⟨⟨1, rfl, by omega, by omega⟩, calm_same hC hO h1 h2⟩
  · obtain ⟨-, rfl, z, -, qq, uu, nn, hp, rfl⟩ := h
    refine ⟨⟨0, rfl, by omega, by omega⟩, ?_⟩
    obtain ⟨-, hC2, hk2⟩ := hp
    exact calm_set hC2 (fun _ _ => ⟨rfl, rfl⟩) (fun _ _ => rfl) hk2 ho _ _
set_option maxHeartbeats 1000000 in
theorem a_period {τ ad : Nat → Nat} {w w' : Wd} {o : Nat} {bs ss : Nat → Int} {pb : Nat → PT} {P Q : Nat → Nat} {ct : Nat → Int} (hC : CS τ ad w bs ss pb P Q ct) (ho : τ o = 199) (hO : OU w o) {b : Int} {r' : Option Value} (h : (¬ (GB b) ∧ r' = some (iI 1) ∧ w.1 ≤ w'.1 ∧ w'.2 = w.2) ∨ ((GB b) ∧ r' = some (iI 0) ∧ ∃ (zz : Int) (uu : Wd) (sv : Value), (-2147483648 ≤ zz ∧ zz < 2147483648) ∧ (∃ (r : Int) (p : Nat), (some (iI zz)) = some (iI (p : Int)) ∧ RT b r ∧ isPer b r p ∧ CS τ ad uu (bs) (ss) (pb) (P) (Q) (ct) ∧ KO τ w uu) ∧ w' = wset uu o (true, eO 9 [jJ zz, sv]))) : (∃ k : Int, r' = some (iI k) ∧ 0 ≤ k ∧ k ≤ 2) ∧ CALM τ ad o w w' bs ss pb P Q ct := by
  rcases h with h | h
  · obtain ⟨-, rfl, h1, h2⟩ := h
    exact ⟨⟨1, rfl, by omega, by omega⟩, calm_same hC hO h1 h2⟩
  · obtain ⟨-, rfl, zz, uu, sv, -, hp, rfl⟩ := h
    refine ⟨⟨0, rfl, by omega, by omega⟩, ?_⟩
    obtain ⟨r, p, -, -, -, hC2, hk2⟩ := hp
    exact calm_set hC2 (fun _ _ => ⟨rfl, rfl⟩) (fun _ _ => rfl) hk2 ho _ _
set_option maxHeartbeats 1000000 in
theorem a_periodText {τ ad : Nat → Nat} {w w' : Wd} {o : Nat} {bs ss : Nat → Int} {pb : Nat → PT} {P Q : Nat → Nat} {ct : Nat → Int} (hC : CS τ ad w bs ss pb P Q ct) (ho : τ o = 199) (hO : OU w o) {b : Int} {r' : Option Value} (h : (¬ (GB b) ∧ r' = some (iI 1) ∧ w.1 ≤ w'.1 ∧ w'.2 = w.2) ∨ ((GB b) ∧ r' = some (iI 0) ∧ ∃ (qq : Nat) (uu : Wd) (n : Int), ((∃ s : Nat, (some (Value.ref qq)) = some (Value.ref s)) ∧ CS τ ad uu (bs) (ss) (pb) (P) (Q) (ct) ∧ KO τ w uu) ∧ w' = wset uu o (true, eO 9 [jJ n, .ref qq]))) : (∃ k : Int, r' = some (iI k) ∧ 0 ≤ k ∧ k ≤ 2) ∧ CALM τ ad o w w' bs ss pb P Q ct := by
  rcases h with h | h
  · obtain ⟨-, rfl, h1, h2⟩ := h
    exact ⟨⟨1, rfl, by omega, by omega⟩, calm_same hC hO h1 h2⟩
  · obtain ⟨-, rfl, qq, uu, nn, hp, rfl⟩ := h
    refine ⟨⟨0, rfl, by omega, by omega⟩, ?_⟩
    obtain ⟨-, hC2, hk2⟩ := hp
    exact calm_set hC2 (fun _ _ => ⟨rfl, rfl⟩) (fun _ _ => rfl) hk2 ho _ _
set_option maxHeartbeats 1000000 in
theorem a_solution {τ ad : Nat → Nat} {w w' : Wd} {o : Nat} {bs ss : Nat → Int} {pb : Nat → PT} {P Q : Nat → Nat} {ct : Nat → Int} (hC : CS τ ad w bs ss pb P Q ct) (ho : τ o = 199) (hO : OU w o) {b y : Int} {r' : Option Value} (h : (¬ (GB b) ∧ r' = some (iI 1) ∧ w.1 ≤ w'.1 ∧ w'.2 = w.2) ∨ ((GB b) ∧ r' = some (iI 0) ∧ ∃ (qq : Nat) (uu : Wd) (n : Int), ((∃ s : Nat, (some (Value.ref qq)) = some (Value.ref s)) ∧ CS τ ad uu (bs) (ss) (pb) (P) (Q) (ct) ∧ KO τ w uu) ∧ w' = wset uu o (true, eO 9 [jJ n, .ref qq]))) : (∃ k : Int, r' = some (iI k) ∧ 0 ≤ k ∧ k ≤ 2) ∧ CALM τ ad o w w' bs ss pb P Q ct := by
  rcases h with h | h
  · obtain ⟨-, rfl, h1, h2⟩ := h
    exact ⟨⟨1, rfl, by omega, by omega⟩, calm_same hC hO h1 h2⟩
  · obtain ⟨-, rfl, qq, uu, nn, hp, rfl⟩ := h
    refine ⟨⟨0, rfl, by omega, by omega⟩, ?_⟩
    obtain ⟨-, hC2, hk2⟩ := hp
    exact calm_set hC2 (fun _ _ => ⟨rfl, rfl⟩) (fun _ _ => rfl) hk2 ho _ _
set_option maxHeartbeats 1000000 in
theorem a_minus {τ ad : Nat → Nat} {w w' : Wd} {o : Nat} {bs ss : Nat → Int} {pb : Nat → PT} {P Q : Nat → Nat} {ct : Nat → Int} (hC : CS τ ad w bs ss pb P Q ct) (ho : τ o = 199) (hO : OU w o) {b y : Int} {r' : Option Value} (h : (¬ (GB b) ∧ r' = some (iI 1) ∧ w.1 ≤ w'.1 ∧ w'.2 = w.2) ∨ ((GB b) ∧ r' = some (iI 0) ∧ ∃ (qq : Nat) (uu : Wd) (n : Int), ((∃ s : Nat, (some (Value.ref qq)) = some (Value.ref s)) ∧ CS τ ad uu (bs) (ss) (pb) (P) (Q) (ct) ∧ KO τ w uu) ∧ w' = wset uu o (true, eO 9 [jJ n, .ref qq]))) : (∃ k : Int, r' = some (iI k) ∧ 0 ≤ k ∧ k ≤ 2) ∧ CALM τ ad o w w' bs ss pb P Q ct := by
  rcases h with h | h
  · obtain ⟨-, rfl, h1, h2⟩ := h
    exact ⟨⟨1, rfl, by omega, by omega⟩, calm_same hC hO h1 h2⟩
  · obtain ⟨-, rfl, qq, uu, nn, hp, rfl⟩ := h
    refine ⟨⟨0, rfl, by omega, by omega⟩, ?_⟩
    obtain ⟨-, hC2, hk2⟩ := hp
    exact calm_set hC2 (fun _ _ => ⟨rfl, rfl⟩) (fun _ _ => rfl) hk2 ho _ _
set_option maxHeartbeats 1000000 in
theorem a_middle {τ ad : Nat → Nat} {w w' : Wd} {o : Nat} {bs ss : Nat → Int} {pb : Nat → PT} {P Q : Nat → Nat} {ct : Nat → Int} (hC : CS τ ad w bs ss pb P Q ct) (ho : τ o = 199) (hO : OU w o) {b : Int} {r' : Option Value} (h : (¬ (GB b) ∧ r' = some (iI 1) ∧ w.1 ≤ w'.1 ∧ w'.2 = w.2) ∨ ((GB b) ∧ r' = some (iI 0) ∧ ∃ (qq : Nat) (uu : Wd) (n : Int), ((∃ s : Nat, (some (Value.ref qq)) = some (Value.ref s)) ∧ CS τ ad uu (bs) (ss) (pb) (P) (Q) (ct) ∧ KO τ w uu) ∧ w' = wset uu o (true, eO 9 [jJ n, .ref qq]))) : (∃ k : Int, r' = some (iI k) ∧ 0 ≤ k ∧ k ≤ 2) ∧ CALM τ ad o w w' bs ss pb P Q ct := by
  rcases h with h | h
  · obtain ⟨-, rfl, h1, h2⟩ := h
    exact ⟨⟨1, rfl, by omega, by omega⟩, calm_same hC hO h1 h2⟩
  · obtain ⟨-, rfl, qq, uu, nn, hp, rfl⟩ := h
    refine ⟨⟨0, rfl, by omega, by omega⟩, ?_⟩
    obtain ⟨-, hC2, hk2⟩ := hp
    exact calm_set hC2 (fun _ _ => ⟨rfl, rfl⟩) (fun _ _ => rfl) hk2 ho _ _
set_option maxHeartbeats 1000000 in
theorem a_pairBase {τ ad : Nat → Nat} {w w' : Wd} {o : Nat} {bs ss : Nat → Int} {pb : Nat → PT} {P Q : Nat → Nat} {ct : Nat → Int} (hC : CS τ ad w bs ss pb P Q ct) (ho : τ o = 199) (hO : OU w o) {vi : Int} {r' : Option Value} (h : (¬ ((0 ≤ vi ∧ vi ≤ 2)) ∧ r' = some (iI 1) ∧ w.1 ≤ w'.1 ∧ w'.2 = w.2) ∨ (((0 ≤ vi ∧ vi ≤ 2)) ∧ r' = some (iI 0) ∧ ∃ (i : Nat), vi = (i : Int) ∧ ∃ (zz : Int) (uu : Wd) (sv : Value), (-2147483648 ≤ zz ∧ zz < 2147483648) ∧ ((some (iI zz)) = some (iI (pb i).1) ∧ CS τ ad uu (bs) (ss) (pb) (P) (Q) (ct) ∧ KO τ w uu) ∧ w' = wset uu o (true, eO 9 [jJ zz, sv]))) : (∃ k : Int, r' = some (iI k) ∧ 0 ≤ k ∧ k ≤ 2) ∧ CALM τ ad o w w' bs ss pb P Q ct := by
  rcases h with h | h
  · obtain ⟨-, rfl, h1, h2⟩ := h
    exact ⟨⟨1, rfl, by omega, by omega⟩, calm_same hC hO h1 h2⟩
  · obtain ⟨-, rfl, i, -, zz, uu, sv, -, hp, rfl⟩ := h
    refine ⟨⟨0, rfl, by omega, by omega⟩, ?_⟩
    obtain ⟨-, hC2, hk2⟩ := hp
    exact calm_set hC2 (fun _ _ => ⟨rfl, rfl⟩) (fun _ _ => rfl) hk2 ho _ _
set_option maxHeartbeats 1000000 in
theorem a_pairText {τ ad : Nat → Nat} {w w' : Wd} {o : Nat} {bs ss : Nat → Int} {pb : Nat → PT} {P Q : Nat → Nat} {ct : Nat → Int} (hC : CS τ ad w bs ss pb P Q ct) (ho : τ o = 199) (hO : OU w o) {vi y : Int} {r' : Option Value} (h : (¬ ((0 ≤ vi ∧ vi ≤ 2)) ∧ r' = some (iI 1) ∧ w.1 ≤ w'.1 ∧ w'.2 = w.2) ∨ (((0 ≤ vi ∧ vi ≤ 2)) ∧ r' = some (iI 0) ∧ ∃ (i : Nat), vi = (i : Int) ∧ ∃ (qq : Nat) (uu : Wd) (n : Int), ((∃ s : Nat, (some (Value.ref qq)) = some (Value.ref s)) ∧ CS τ ad uu (bs) (ss) (pb) (P) (Q) (ct) ∧ KO τ w uu) ∧ w' = wset uu o (true, eO 9 [jJ n, .ref qq]))) : (∃ k : Int, r' = some (iI k) ∧ 0 ≤ k ∧ k ≤ 2) ∧ CALM τ ad o w w' bs ss pb P Q ct := by
  rcases h with h | h
  · obtain ⟨-, rfl, h1, h2⟩ := h
    exact ⟨⟨1, rfl, by omega, by omega⟩, calm_same hC hO h1 h2⟩
  · obtain ⟨-, rfl, i, -, qq, uu, nn, hp, rfl⟩ := h
    refine ⟨⟨0, rfl, by omega, by omega⟩, ?_⟩
    obtain ⟨-, hC2, hk2⟩ := hp
    exact calm_set hC2 (fun _ _ => ⟨rfl, rfl⟩) (fun _ _ => rfl) hk2 ho _ _
set_option maxHeartbeats 1000000 in
theorem a_pairNorm {τ ad : Nat → Nat} {w w' : Wd} {o : Nat} {bs ss : Nat → Int} {pb : Nat → PT} {P Q : Nat → Nat} {ct : Nat → Int} (hC : CS τ ad w bs ss pb P Q ct) (ho : τ o = 199) (hO : OU w o) {vi : Int} {r' : Option Value} (h : (¬ ((0 ≤ vi ∧ vi ≤ 2)) ∧ r' = some (iI 1) ∧ w.1 ≤ w'.1 ∧ w'.2 = w.2) ∨ (((0 ≤ vi ∧ vi ≤ 2)) ∧ r' = some (iI 0) ∧ ∃ (i : Nat), vi = (i : Int) ∧ ∃ (qq : Nat) (uu : Wd) (n : Int), ((∃ s : Nat, (some (Value.ref qq)) = some (Value.ref s)) ∧ CS τ ad uu (bs) (ss) (pb) (P) (Q) (ct) ∧ KO τ w uu) ∧ w' = wset uu o (true, eO 9 [jJ n, .ref qq]))) : (∃ k : Int, r' = some (iI k) ∧ 0 ≤ k ∧ k ≤ 2) ∧ CALM τ ad o w w' bs ss pb P Q ct := by
  rcases h with h | h
  · obtain ⟨-, rfl, h1, h2⟩ := h
    exact ⟨⟨1, rfl, by omega, by omega⟩, calm_same hC hO h1 h2⟩
  · obtain ⟨-, rfl, i, -, qq, uu, nn, hp, rfl⟩ := h
    refine ⟨⟨0, rfl, by omega, by omega⟩, ?_⟩
    obtain ⟨-, hC2, hk2⟩ := hp
    exact calm_set hC2 (fun _ _ => ⟨rfl, rfl⟩) (fun _ _ => rfl) hk2 ho _ _
set_option maxHeartbeats 1000000 in
theorem a_pairBits {τ ad : Nat → Nat} {w w' : Wd} {o : Nat} {bs ss : Nat → Int} {pb : Nat → PT} {P Q : Nat → Nat} {ct : Nat → Int} (hC : CS τ ad w bs ss pb P Q ct) (ho : τ o = 199) (hO : OU w o) {vi y z : Int} {r' : Option Value} (h : (¬ ((0 ≤ vi ∧ vi ≤ 2)) ∧ r' = some (iI 1) ∧ w.1 ≤ w'.1 ∧ w'.2 = w.2) ∨ (((0 ≤ vi ∧ vi ≤ 2)) ∧ ¬ ((0 ≤ z ∧ z ≤ 2)) ∧ r' = some (iI 2) ∧ w.1 ≤ w'.1 ∧ w'.2 = w.2) ∨ (((0 ≤ vi ∧ vi ≤ 2)) ∧ ((0 ≤ z ∧ z ≤ 2)) ∧ r' = some (iI 0) ∧ ∃ (i : Nat), vi = (i : Int) ∧ ∃ (zz : Int) (uu : Wd) (sv : Value), (-2147483648 ≤ zz ∧ zz < 2147483648) ∧ ((some (iI zz)) = some (iI (bitV (sdV y (pb i)) z)) ∧ CS τ ad uu (bs) (ss) (pb) (P) (Q) (ct) ∧ KO τ w uu) ∧ w' = wset uu o (true, eO 9 [jJ zz, sv]))) : (∃ k : Int, r' = some (iI k) ∧ 0 ≤ k ∧ k ≤ 2) ∧ CALM τ ad o w w' bs ss pb P Q ct := by
  rcases h with h | h | h
  · obtain ⟨-, rfl, h1, h2⟩ := h
    exact ⟨⟨1, rfl, by omega, by omega⟩, calm_same hC hO h1 h2⟩
  · obtain ⟨-, -, rfl, h1, h2⟩ := h
    exact ⟨⟨2, rfl, by omega, by omega⟩, calm_same hC hO h1 h2⟩
  · obtain ⟨-, -, rfl, i, -, zz, uu, sv, -, hp, rfl⟩ := h
    refine ⟨⟨0, rfl, by omega, by omega⟩, ?_⟩
    obtain ⟨-, hC2, hk2⟩ := hp
    exact calm_set hC2 (fun _ _ => ⟨rfl, rfl⟩) (fun _ _ => rfl) hk2 ho _ _
set_option maxHeartbeats 1000000 in
theorem a_rank {τ ad : Nat → Nat} {w w' : Wd} {o : Nat} {bs ss : Nat → Int} {pb : Nat → PT} {P Q : Nat → Nat} {ct : Nat → Int} (hC : CS τ ad w bs ss pb P Q ct) (ho : τ o = 199) (hO : OU w o) {vi : Int} {r' : Option Value} (h : (¬ ((0 ≤ vi ∧ vi ≤ 2)) ∧ r' = some (iI 1) ∧ w.1 ≤ w'.1 ∧ w'.2 = w.2) ∨ (((0 ≤ vi ∧ vi ≤ 2)) ∧ r' = some (iI 0) ∧ ∃ (i : Nat), vi = (i : Int) ∧ ∃ (zz : Int) (uu : Wd) (sv : Value), (-2147483648 ≤ zz ∧ zz < 2147483648) ∧ ((∃ x : Int, (some (iI zz)) = some (iI x) ∧ rnkP (pb i) x) ∧ (∃ pb' : Nat → PT, (∀ j, j < 3 → pb' j = pb j) ∧ CS τ ad uu (bs) (ss) (pb') (P) (Q) (ct)) ∧ KO τ w uu) ∧ w' = wset uu o (true, eO 9 [jJ zz, sv]))) : (∃ k : Int, r' = some (iI k) ∧ 0 ≤ k ∧ k ≤ 2) ∧ CALM τ ad o w w' bs ss pb P Q ct := by
  rcases h with h | h
  · obtain ⟨-, rfl, h1, h2⟩ := h
    exact ⟨⟨1, rfl, by omega, by omega⟩, calm_same hC hO h1 h2⟩
  · obtain ⟨-, rfl, i, -, zz, uu, sv, -, hp, rfl⟩ := h
    refine ⟨⟨0, rfl, by omega, by omega⟩, ?_⟩
    obtain ⟨-, ⟨pb2, hpb2, hC2⟩, hk2⟩ := hp
    exact calm_set hC2 (fun _ _ => ⟨rfl, rfl⟩) hpb2 hk2 ho _ _
set_option maxHeartbeats 1000000 in
theorem a_order {τ ad : Nat → Nat} {w w' : Wd} {o : Nat} {bs ss : Nat → Int} {pb : Nat → PT} {P Q : Nat → Nat} {ct : Nat → Int} (hC : CS τ ad w bs ss pb P Q ct) (ho : τ o = 199) (hO : OU w o) {vi vk y : Int} {r' : Option Value} (h : (¬ ((0 ≤ vi ∧ vi ≤ 2) ∧ (0 ≤ vk ∧ vk ≤ 2)) ∧ r' = some (iI 1) ∧ w.1 ≤ w'.1 ∧ w'.2 = w.2) ∨ (((0 ≤ vi ∧ vi ≤ 2) ∧ (0 ≤ vk ∧ vk ≤ 2)) ∧ r' = some (iI 0) ∧ ∃ (i : Nat) (k : Nat), vi = (i : Int) ∧ vk = (k : Int) ∧ ∃ (zz : Int) (uu : Wd) (sv : Value), (-2147483648 ≤ zz ∧ zz < 2147483648) ∧ ((∃ x : Int, (some (iI zz)) = some (iI x) ∧ (sdV y (pb i) < sdV y (pb k) ∧ x = -1 ∨ sdV y (pb i) = sdV y (pb k) ∧ x = 0 ∨ sdV y (pb k) < sdV y (pb i) ∧ x = 1)) ∧ CS τ ad uu (bs) (ss) (pb) (P) (Q) (ct) ∧ KO τ w uu) ∧ w' = wset uu o (true, eO 9 [jJ zz, sv]))) : (∃ k : Int, r' = some (iI k) ∧ 0 ≤ k ∧ k ≤ 2) ∧ CALM τ ad o w w' bs ss pb P Q ct := by
  rcases h with h | h
  · obtain ⟨-, rfl, h1, h2⟩ := h
    exact ⟨⟨1, rfl, by omega, by omega⟩, calm_same hC hO h1 h2⟩
  · obtain ⟨-, rfl, i, k, -, -, zz, uu, sv, -, hp, rfl⟩ := h
    refine ⟨⟨0, rfl, by omega, by omega⟩, ?_⟩
    obtain ⟨-, hC2, hk2⟩ := hp
    exact calm_set hC2 (fun _ _ => ⟨rfl, rfl⟩) (fun _ _ => rfl) hk2 ho _ _
set_option maxHeartbeats 1000000 in
theorem a_isSame {τ ad : Nat → Nat} {w w' : Wd} {o : Nat} {bs ss : Nat → Int} {pb : Nat → PT} {P Q : Nat → Nat} {ct : Nat → Int} (hC : CS τ ad w bs ss pb P Q ct) (ho : τ o = 199) (hO : OU w o) {vi vk : Int} {r' : Option Value} (h : (¬ ((0 ≤ vi ∧ vi ≤ 2) ∧ (0 ≤ vk ∧ vk ≤ 2)) ∧ r' = some (iI 1) ∧ w.1 ≤ w'.1 ∧ w'.2 = w.2) ∨ (((0 ≤ vi ∧ vi ≤ 2) ∧ (0 ≤ vk ∧ vk ≤ 2)) ∧ r' = some (iI 0) ∧ ∃ (i : Nat) (k : Nat), vi = (i : Int) ∧ vk = (k : Int) ∧ ∃ (zz : Int) (uu : Wd) (sv : Value), (-2147483648 ≤ zz ∧ zz < 2147483648) ∧ ((∃ x : Int, (some (iI zz)) = some (iI x) ∧ (x = 0 ∨ x = 1) ∧ x = bI ((pb i).1 = (pb k).1 ∧ (pb i).2.1 = (pb k).2.1 ∧ (pb i).2.2 = (pb k).2.2)) ∧ CS τ ad uu (bs) (ss) (pb) (P) (Q) (ct) ∧ KO τ w uu) ∧ w' = wset uu o (true, eO 9 [jJ zz, sv]))) : (∃ k : Int, r' = some (iI k) ∧ 0 ≤ k ∧ k ≤ 2) ∧ CALM τ ad o w w' bs ss pb P Q ct := by
  rcases h with h | h
  · obtain ⟨-, rfl, h1, h2⟩ := h
    exact ⟨⟨1, rfl, by omega, by omega⟩, calm_same hC hO h1 h2⟩
  · obtain ⟨-, rfl, i, k, -, -, zz, uu, sv, -, hp, rfl⟩ := h
    refine ⟨⟨0, rfl, by omega, by omega⟩, ?_⟩
    obtain ⟨-, hC2, hk2⟩ := hp
    exact calm_set hC2 (fun _ _ => ⟨rfl, rfl⟩) (fun _ _ => rfl) hk2 ho _ _
set_option maxHeartbeats 1000000 in
theorem a_splitNumber {τ ad : Nat → Nat} {w w' : Wd} {o : Nat} {bs ss : Nat → Int} {pb : Nat → PT} {P Q : Nat → Nat} {ct : Nat → Int} (hC : CS τ ad w bs ss pb P Q ct) (ho : τ o = 199) (hO : OU w o) {vi z : Int} {r' : Option Value} (h : (¬ ((0 ≤ vi ∧ vi ≤ 2)) ∧ r' = some (iI 1) ∧ w.1 ≤ w'.1 ∧ w'.2 = w.2) ∨ (((0 ≤ vi ∧ vi ≤ 2)) ∧ ¬ ((0 ≤ z ∧ z ≤ 7)) ∧ r' = some (iI 2) ∧ w.1 ≤ w'.1 ∧ w'.2 = w.2) ∨ (((0 ≤ vi ∧ vi ≤ 2)) ∧ ((0 ≤ z ∧ z ≤ 7)) ∧ r' = some (iI 0) ∧ ∃ (i : Nat), vi = (i : Int) ∧ ∃ (zz : Int) (uu : Wd) (sv : Value), (-2147483648 ≤ zz ∧ zz < 2147483648) ∧ ((some (iI zz)) = some (iI (szV (spF (P i) (Q i)) z)) ∧ CS τ ad uu (bs) (ss) (pb) (P) (Q) (ct) ∧ KO τ w uu) ∧ w' = wset uu o (true, eO 9 [jJ zz, sv]))) : (∃ k : Int, r' = some (iI k) ∧ 0 ≤ k ∧ k ≤ 2) ∧ CALM τ ad o w w' bs ss pb P Q ct := by
  rcases h with h | h | h
  · obtain ⟨-, rfl, h1, h2⟩ := h
    exact ⟨⟨1, rfl, by omega, by omega⟩, calm_same hC hO h1 h2⟩
  · obtain ⟨-, -, rfl, h1, h2⟩ := h
    exact ⟨⟨2, rfl, by omega, by omega⟩, calm_same hC hO h1 h2⟩
  · obtain ⟨-, -, rfl, i, -, zz, uu, sv, -, hp, rfl⟩ := h
    refine ⟨⟨0, rfl, by omega, by omega⟩, ?_⟩
    obtain ⟨-, hC2, hk2⟩ := hp
    exact calm_set hC2 (fun _ _ => ⟨rfl, rfl⟩) (fun _ _ => rfl) hk2 ho _ _
set_option maxHeartbeats 1000000 in
theorem a_way {τ ad : Nat → Nat} {w w' : Wd} {o : Nat} {bs ss : Nat → Int} {pb : Nat → PT} {P Q : Nat → Nat} {ct : Nat → Int} (hC : CS τ ad w bs ss pb P Q ct) (ho : τ o = 199) (hO : OU w o) {vi : Int} {r' : Option Value} (h : (¬ ((0 ≤ vi ∧ vi ≤ 2)) ∧ r' = some (iI 1) ∧ w.1 ≤ w'.1 ∧ w'.2 = w.2) ∨ (((0 ≤ vi ∧ vi ≤ 2)) ∧ r' = some (iI 0) ∧ ∃ (i : Nat), vi = (i : Int) ∧ ∃ (qq : Nat) (uu : Wd) (n : Int), ((∃ s : Nat, (some (Value.ref qq)) = some (Value.ref s)) ∧ (∃ P' Q' : Nat → Nat, (∀ j, j < 3 → P' j = P j ∧ Q' j = Q j) ∧ CS τ ad uu (bs) (ss) (pb) (P') (Q') (ct)) ∧ KO τ w uu) ∧ w' = wset uu o (true, eO 9 [jJ n, .ref qq]))) : (∃ k : Int, r' = some (iI k) ∧ 0 ≤ k ∧ k ≤ 2) ∧ CALM τ ad o w w' bs ss pb P Q ct := by
  rcases h with h | h
  · obtain ⟨-, rfl, h1, h2⟩ := h
    exact ⟨⟨1, rfl, by omega, by omega⟩, calm_same hC hO h1 h2⟩
  · obtain ⟨-, rfl, i, -, qq, uu, nn, hp, rfl⟩ := h
    refine ⟨⟨0, rfl, by omega, by omega⟩, ?_⟩
    obtain ⟨-, ⟨P2, Q2, hpq, hC2⟩, hk2⟩ := hp
    exact calm_set hC2 hpq (fun _ _ => rfl) hk2 ho _ _
set_option maxHeartbeats 1000000 in
theorem a_product {τ ad : Nat → Nat} {w w' : Wd} {o : Nat} {bs ss : Nat → Int} {pb : Nat → PT} {P Q : Nat → Nat} {ct : Nat → Int} (hC : CS τ ad w bs ss pb P Q ct) (ho : τ o = 199) (hO : OU w o) {vi vk : Int} {r' : Option Value} (h : (¬ ((0 ≤ vi ∧ vi ≤ 2) ∧ (0 ≤ vk ∧ vk ≤ 2)) ∧ r' = some (iI 1) ∧ w.1 ≤ w'.1 ∧ w'.2 = w.2) ∨ (((0 ≤ vi ∧ vi ≤ 2) ∧ (0 ≤ vk ∧ vk ≤ 2)) ∧ r' = some (iI 0) ∧ ∃ (i : Nat) (k : Nat), vi = (i : Int) ∧ vk = (k : Int) ∧ ∃ (qq : Nat) (uu : Wd) (n : Int), ((∃ s : Nat, (some (Value.ref qq)) = some (Value.ref s)) ∧ (∃ P' Q' : Nat → Nat, (∀ j, j < 3 → P' j = P j ∧ Q' j = Q j) ∧ CS τ ad uu (bs) (ss) (pb) (P') (Q') (ct)) ∧ KO τ w uu) ∧ w' = wset uu o (true, eO 9 [jJ n, .ref qq]))) : (∃ k : Int, r' = some (iI k) ∧ 0 ≤ k ∧ k ≤ 2) ∧ CALM τ ad o w w' bs ss pb P Q ct := by
  rcases h with h | h
  · obtain ⟨-, rfl, h1, h2⟩ := h
    exact ⟨⟨1, rfl, by omega, by omega⟩, calm_same hC hO h1 h2⟩
  · obtain ⟨-, rfl, i, k, -, -, qq, uu, nn, hp, rfl⟩ := h
    refine ⟨⟨0, rfl, by omega, by omega⟩, ?_⟩
    obtain ⟨-, ⟨P2, Q2, hpq, hC2⟩, hk2⟩ := hp
    exact calm_set hC2 hpq (fun _ _ => rfl) hk2 ho _ _
set_option maxHeartbeats 1000000 in
theorem a_symbol {τ ad : Nat → Nat} {w w' : Wd} {o : Nat} {bs ss : Nat → Int} {pb : Nat → PT} {P Q : Nat → Nat} {ct : Nat → Int} (hC : CS τ ad w bs ss pb P Q ct) (ho : τ o = 199) (hO : OU w o) {vi x : Int} {r' : Option Value} (h : (¬ ((0 ≤ vi ∧ vi ≤ 2)) ∧ r' = some (iI 1) ∧ w.1 ≤ w'.1 ∧ w'.2 = w.2) ∨ (((0 ≤ vi ∧ vi ≤ 2)) ∧ ¬ ((-999 ≤ x ∧ x ≤ 999)) ∧ r' = some (iI 2) ∧ w.1 ≤ w'.1 ∧ w'.2 = w.2) ∨ (((0 ≤ vi ∧ vi ≤ 2)) ∧ ((-999 ≤ x ∧ x ≤ 999)) ∧ r' = some (iI 0) ∧ ∃ (i : Nat), vi = (i : Int) ∧ ∃ (zz : Int) (uu : Wd) (sv : Value), (-2147483648 ≤ zz ∧ zz < 2147483648) ∧ ((some (iI zz)) = some (iI (if x % ((P i : Nat) : Int) = 0 then 0 else if pmN (x % ((P i : Nat) : Int)).toNat (P i) ((P i - 1) / 2) = 1 then 1 else -1)) ∧ CS τ ad uu (bs) (ss) (pb) (P) (Q) (ct) ∧ KO τ w uu) ∧ w' = wset uu o (true, eO 9 [jJ zz, sv]))) : (∃ k : Int, r' = some (iI k) ∧ 0 ≤ k ∧ k ≤ 2) ∧ CALM τ ad o w w' bs ss pb P Q ct := by
  rcases h with h | h | h
  · obtain ⟨-, rfl, h1, h2⟩ := h
    exact ⟨⟨1, rfl, by omega, by omega⟩, calm_same hC hO h1 h2⟩
  · obtain ⟨-, -, rfl, h1, h2⟩ := h
    exact ⟨⟨2, rfl, by omega, by omega⟩, calm_same hC hO h1 h2⟩
  · obtain ⟨-, -, rfl, i, -, zz, uu, sv, -, hp, rfl⟩ := h
    refine ⟨⟨0, rfl, by omega, by omega⟩, ?_⟩
    obtain ⟨-, hC2, hk2⟩ := hp
    exact calm_set hC2 (fun _ _ => ⟨rfl, rfl⟩) (fun _ _ => rfl) hk2 ho _ _
set_option maxHeartbeats 1000000 in
theorem a_inverse {τ ad : Nat → Nat} {w w' : Wd} {o : Nat} {bs ss : Nat → Int} {pb : Nat → PT} {P Q : Nat → Nat} {ct : Nat → Int} (hC : CS τ ad w bs ss pb P Q ct) (ho : τ o = 199) (hO : OU w o) {vi x : Int} {r' : Option Value} (h : (¬ ((0 ≤ vi ∧ vi ≤ 2)) ∧ r' = some (iI 1) ∧ w.1 ≤ w'.1 ∧ w'.2 = w.2) ∨ (((0 ≤ vi ∧ vi ≤ 2)) ∧ ¬ ((-999 ≤ x ∧ x ≤ 999)) ∧ r' = some (iI 2) ∧ w.1 ≤ w'.1 ∧ w'.2 = w.2) ∨ (((0 ≤ vi ∧ vi ≤ 2)) ∧ ((-999 ≤ x ∧ x ≤ 999)) ∧ r' = some (iI 0) ∧ ∃ (i : Nat), vi = (i : Int) ∧ ∃ (zz : Int) (uu : Wd) (sv : Value), (-2147483648 ≤ zz ∧ zz < 2147483648) ∧ ((some (iI zz)) = some (iI ((pmN (x % ((P i : Nat) : Int)).toNat (P i) (P i - 2) : Nat) : Int)) ∧ CS τ ad uu (bs) (ss) (pb) (P) (Q) (ct) ∧ KO τ w uu) ∧ w' = wset uu o (true, eO 9 [jJ zz, sv]))) : (∃ k : Int, r' = some (iI k) ∧ 0 ≤ k ∧ k ≤ 2) ∧ CALM τ ad o w w' bs ss pb P Q ct := by
  rcases h with h | h | h
  · obtain ⟨-, rfl, h1, h2⟩ := h
    exact ⟨⟨1, rfl, by omega, by omega⟩, calm_same hC hO h1 h2⟩
  · obtain ⟨-, -, rfl, h1, h2⟩ := h
    exact ⟨⟨2, rfl, by omega, by omega⟩, calm_same hC hO h1 h2⟩
  · obtain ⟨-, -, rfl, i, -, zz, uu, sv, -, hp, rfl⟩ := h
    refine ⟨⟨0, rfl, by omega, by omega⟩, ?_⟩
    obtain ⟨-, hC2, hk2⟩ := hp
    exact calm_set hC2 (fun _ _ => ⟨rfl, rfl⟩) (fun _ _ => rfl) hk2 ho _ _
set_option maxHeartbeats 1000000 in
theorem a_isPrime {τ ad : Nat → Nat} {w w' : Wd} {o : Nat} {bs ss : Nat → Int} {pb : Nat → PT} {P Q : Nat → Nat} {ct : Nat → Int} (hC : CS τ ad w bs ss pb P Q ct) (ho : τ o = 199) (hO : OU w o) {vn : Int} {r' : Option Value} (h : (¬ ((0 ≤ vn ∧ vn ≤ 999)) ∧ r' = some (iI 1) ∧ w.1 ≤ w'.1 ∧ w'.2 = w.2) ∨ (((0 ≤ vn ∧ vn ≤ 999)) ∧ r' = some (iI 0) ∧ ∃ (n : Nat), vn = (n : Int) ∧ ∃ (zz : Int) (uu : Wd) (sv : Value), (-2147483648 ≤ zz ∧ zz < 2147483648) ∧ ((some (iI zz)) = some (iI (bI (2 ≤ n ∧ prB n = true))) ∧ CS τ ad uu (bs) (ss) (pb) (P) (Q) (ct) ∧ KO τ w uu) ∧ w' = wset uu o (true, eO 9 [jJ zz, sv]))) : (∃ k : Int, r' = some (iI k) ∧ 0 ≤ k ∧ k ≤ 2) ∧ CALM τ ad o w w' bs ss pb P Q ct := by
  rcases h with h | h
  · obtain ⟨-, rfl, h1, h2⟩ := h
    exact ⟨⟨1, rfl, by omega, by omega⟩, calm_same hC hO h1 h2⟩
  · obtain ⟨-, rfl, n, -, zz, uu, sv, -, hp, rfl⟩ := h
    refine ⟨⟨0, rfl, by omega, by omega⟩, ?_⟩
    obtain ⟨-, hC2, hk2⟩ := hp
    exact calm_set hC2 (fun _ _ => ⟨rfl, rfl⟩) (fun _ _ => rfl) hk2 ho _ _
set_option maxHeartbeats 1000000 in
theorem a_house {τ ad : Nat → Nat} {w w' : Wd} {o : Nat} {bs ss : Nat → Int} {pb : Nat → PT} {P Q : Nat → Nat} {ct : Nat → Int} (hC : CS τ ad w bs ss pb P Q ct) (ho : τ o = 199) (hO : OU w o) {z : Int} {r' : Option Value} (h : (¬ ((0 ≤ z ∧ z ≤ 4)) ∧ r' = some (iI 1) ∧ w.1 ≤ w'.1 ∧ w'.2 = w.2) ∨ (((0 ≤ z ∧ z ≤ 4)) ∧ r' = some (iI 0) ∧ ∃ (zz : Int) (uu : Wd) (sv : Value), (-2147483648 ≤ zz ∧ zz < 2147483648) ∧ ((some (iI zz)) = some (iI (ct z.toNat)) ∧ CS τ ad uu (bs) (ss) (pb) (P) (Q) (ct) ∧ KO τ w uu) ∧ w' = wset uu o (true, eO 9 [jJ zz, sv]))) : (∃ k : Int, r' = some (iI k) ∧ 0 ≤ k ∧ k ≤ 2) ∧ CALM τ ad o w w' bs ss pb P Q ct := by
  rcases h with h | h
  · obtain ⟨-, rfl, h1, h2⟩ := h
    exact ⟨⟨1, rfl, by omega, by omega⟩, calm_same hC hO h1 h2⟩
  · obtain ⟨-, rfl, zz, uu, sv, -, hp, rfl⟩ := h
    refine ⟨⟨0, rfl, by omega, by omega⟩, ?_⟩
    obtain ⟨-, hC2, hk2⟩ := hp
    exact calm_set hC2 (fun _ _ => ⟨rfl, rfl⟩) (fun _ _ => rfl) hk2 ho _ _
