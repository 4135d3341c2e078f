/-! calm calls whose answers are compared -/
def EV (r' : Option Value) (w' : Wd) (o : Nat) (ans t2 : Int) : Prop := ∃ k nv : Int, r' = some (iI k) ∧ OV w' o nv ∧ (k = 0 → -2147483648 ≤ nv ∧ nv < 2147483648) ∧ (k = 0 → nv = ans) ∧ k = t2
theorem ev_no {w w' : Wd} {o : Nat} {ans t2 k : Int} (hO : OU w o) (h : w'.2 = w.2) (hk : k ≠ 0) (ht : k = t2) : EV (some (iI k)) w' o ans t2 := by
  obtain ⟨n0, s0, hO⟩ := hO
  exact ⟨k, n0, rfl, ⟨s0, by rw [h]; exact hO⟩, fun q => absurd q hk, fun q => absurd q hk, ht⟩
theorem ev_go {uu : Wd} {o : Nat} {ans zz t2 : Int} {sv : Value} (hz : -2147483648 ≤ zz ∧ zz < 2147483648) (e : some (iI zz) = some (iI ans)) (ha : -2147483648 ≤ ans ∧ ans < 2147483648) (ht : t2 = 0) : EV (some (iI 0)) (wset uu o (true, eO 9 [jJ zz, sv])) o ans t2 := ⟨0, zz, rfl, ⟨sv, wset_s⟩, fun _ => hz, fun _ => iI_inj (Option.some.inj e) hz ha, ht.symm⟩
theorem szV_eq {f : Nat → Int} {p k : Nat} {z : Int} (h : SpR f p k) (hz : 0 ≤ z ∧ z ≤ 7) : szV f z = szV (spF p k) z := by
  obtain ⟨-, f0, f1, f2, f3, f4, f5⟩ := h
  rcases (show z = 0 ∨ z = 1 ∨ z = 2 ∨ z = 3 ∨ z = 4 ∨ z = 5 ∨ z = 6 ∨ z = 7 by omega) with q | q | q | q | q | q | q | q <;> subst q <;> simp [szV, spF, f0, f1, f2, f3, f4, f5]
theorem dgV_cg {bs ss ba st pm le ri ct cm : Nat → Int} {pb : Nat → PT} {P Q : Nat → Nat} {sp : Nat → Nat → Int} (hr : RLx bs ss pb P Q ct ba st pm le ri sp cm) {rt rt2 : Nat → Int} (h1 : ∀ i, i < 3 → RT (bs i) (rt i)) (h2 : ∀ i, i < 3 → RT (ba i) (rt2 i)) : dgV bs ss rt (fun j => (pb j).1) (fun j => (pb j).2.1) (fun j => (pb j).2.2) (fun j => spF (P j) (Q j)) ct = dgV ba st rt2 pm le ri sp cm := by
  have a : ∀ i, i < 3 → ∀ x, dmW (bs i) (rt i) (ss i) x = dmW (ba i) (rt2 i) (st i) x := fun i hi x => by
    obtain ⟨e1, e2, -⟩ := hr.1 i hi
    have h := h1 i hi
    rw [e1] at h
    rw [e1, e2, RT_uniq h (h2 i hi)]
  have e1 : dm1 bs ss rt 3 = dm1 ba st rt2 3 := by
    show dmW (bs 2) (rt 2) (ss 2) (dmW (bs 1) (rt 1) (ss 1) (dmW (bs 0) (rt 0) (ss 0) 7685)) = dmW (ba 2) (rt2 2) (st 2) (dmW (ba 1) (rt2 1) (st 1) (dmW (ba 0) (rt2 0) (st 0) 7685))
    rw [a 2 (by omega), a 1 (by omega), a 0 (by omega)]
  have e2 : ∀ x, dm2 (fun j => (pb j).1) (fun j => (pb j).2.1) (fun j => (pb j).2.2) x 3 = dm2 pm le ri x 3 := fun x => by
    show dmP (dmP (dmP x (pb 0).1 (pb 0).2.1 (pb 0).2.2) (pb 1).1 (pb 1).2.1 (pb 1).2.2) (pb 2).1 (pb 2).2.1 (pb 2).2.2 = dmP (dmP (dmP x (pm 0) (le 0) (ri 0)) (pm 1) (le 1) (ri 1)) (pm 2) (le 2) (ri 2)
    rw [hr.2.1 0 (by omega), hr.2.1 1 (by omega), hr.2.1 2 (by omega)]
  have s : ∀ i, i < 3 → ∀ n : Nat, n ≤ 8 → ∀ x, dmS (spF (P i) (Q i)) x n = dmS (sp i) x n := fun i hi n => by
    induction n with
    | zero => intro _ x; rfl
    | succ n ih =>
      intro hn x
      show dmS (spF (P i) (Q i)) x n * 31 + szV (spF (P i) (Q i)) (n : Int) = dmS (sp i) x n * 31 + szV (sp i) (n : Int)
      rw [ih (by omega) x, szV_eq (hr.1 i hi).2.2 (show 0 ≤ (n : Int) ∧ (n : Int) ≤ 7 by omega)]
  have e3 : ∀ x, dm3 (fun j => spF (P j) (Q j)) x 3 = dm3 sp x 3 := fun x => by
    show dmS (spF (P 2) (Q 2)) (dmS (spF (P 1) (Q 1)) (dmS (spF (P 0) (Q 0)) x 8) 8) 8 = dmS (sp 2) (dmS (sp 1) (dmS (sp 0) x 8) 8) 8
    rw [s 0 (by omega) 8 (by omega), s 1 (by omega) 8 (by omega), s 2 (by omega) 8 (by omega)]
  have e5 : ∀ x, dm5 ct x 5 = dm5 cm x 5 := fun x => by
    show ((((x * 31 + ct 0) * 31 + ct 1) * 31 + ct 2) * 31 + ct 3) * 31 + ct 4 = ((((x * 31 + cm 0) * 31 + cm 1) * 31 + cm 2) * 31 + cm 3) * 31 + cm 4
    rw [hr.2.2 0 (by omega), hr.2.2 1 (by omega), hr.2.2 2 (by omega), hr.2.2 3 (by omega), hr.2.2 4 (by omega)]
  unfold dgV
  rw [e1, e2, e3, e5]
theorem bitV_r (v z : Int) : -1 ≤ bitV v z ∧ bitV v z ≤ 120 := by
  have h1 := hiB_r (aB v) 120
  have h2 := onB_r (aB v) 120
  have h3 := loB_r (aB v) 120
  unfold bitV
  split
  · omega
  · split <;> omega
theorem lfD_md {P Q : Int} : ∀ k, lfD P Q k % Q = P * 10 ^ k % Q
  | 0 => by
    show P % Q = P * 10 ^ 0 % Q
    rw [Int.pow_zero, Int.mul_one]
  | k + 1 => by
    show 10 * (lfD P Q k % Q) % Q = _
    rw [lfD_md k, Int.pow_succ, ← Int.mul_assoc, Int.mul_comm 10, Int.mul_emod (P * 10 ^ k) 10 Q, Int.mul_emod (P * 10 ^ k % Q) 10 Q, Int.emod_emod_of_dvd _ (Int.dvd_refl Q)]
theorem lfD_q {P Q : Int} (hQ : 0 < Q) (k : Nat) : lfD P Q (k + 1) / Q = P * 10 ^ (k + 1) / Q - 10 * (P * 10 ^ k / Q) := by
  show 10 * (lfD P Q k % Q) / Q = _
  rw [lfD_md k, Int.pow_succ, ← Int.mul_assoc]
  generalize P * 10 ^ k = A
  have h := Int.emod_add_mul_ediv A Q
  have e2 : Q * (10 * (A / Q)) = 10 * (Q * (A / Q)) := Int.mul_left_comm _ _ _
  have e : A * 10 = 10 * (A % Q) + Q * (10 * (A / Q)) := by omega
  rw [e, Int.add_mul_ediv_left _ _ (by omega)]
  omega
theorem Fe_dn {P Q : Int} (hQ : 0 < Q) (k : Nat) : P * 10 ^ k / Q = P * 10 ^ (k + 1) / Q / 10 := by
  rw [Int.ediv_ediv_of_nonneg (Int.le_of_lt hQ), Int.pow_succ, ← Int.mul_assoc, Int.mul_ediv_mul_of_pos_left _ _ (by decide)]
theorem alk_eq {b P Q : Int} (hQ : 0 < Q) {n m : Nat} (hn : n ≤ 17) (hm : m ≤ 17) (h : alkP b P Q n) (g1 : ∀ i, i < m → rpD b i (lfD P Q i / Q)) (g2 : m < 17 → ¬ rpD b m (lfD P Q m / Q)) : n = m := by
  obtain ⟨Y, y1, y2, y3⟩ := h
  have dn : ∀ e, e < 16 → Y (e + 1) / 10 = Y e := fun e he => RT_uniq (rt_dn (y1 (e + 1) (by omega))) (y1 e (by omega))
  have ag : ∀ d, d < n → P * 10 ^ (n - 1 - d) / Q = Y (n - 1 - d) := by
    intro d
    induction d with
    | zero => intro h; exact y3 (by omega)
    | succ d ih =>
      intro h
      have := ih (by omega)
      rw [show n - 1 - d = (n - 1 - (d + 1)) + 1 by omega] at this
      rw [Fe_dn hQ, this, dn _ (by omega)]
  have dg : ∀ e, e < 17 → (∀ i, i < e → P * 10 ^ i / Q = Y i) → (rpD b e (lfD P Q e / Q) ↔ P * 10 ^ e / Q = Y e) := by
    intro e he hpre
    have key : ∃ S' : Int, (e = 0 ∧ S' = 0 ∨ ∃ i, e = i + 1 ∧ RT (b * 100 ^ i) S') ∧ lfD P Q e / Q = P * 10 ^ e / Q - 10 * S' := by
      cases e with
      | zero => exact ⟨0, Or.inl ⟨rfl, rfl⟩, by show P / Q = _; rw [Int.pow_zero, Int.mul_one]; omega⟩
      | succ k => exact ⟨Y k, Or.inr ⟨k, rfl, y1 k (by omega)⟩, by rw [lfD_q hQ, hpre k (by omega)]⟩
    obtain ⟨S', s1, s2⟩ := key
    have hr : rpD b e (Y e - 10 * S') := ⟨Y e, S', y1 e (by omega), s1, rfl⟩
    constructor
    · intro q
      have := rpD_uniq q hr
      omega
    · intro q
      rw [s2, q]
      exact hr
  have mg : ∀ e, e ≤ m → ∀ i, i < e → P * 10 ^ i / Q = Y i := by
    intro e
    induction e with
    | zero => intro _ i hi; omega
    | succ e ih =>
      intro he i hi
      have ih := ih (by omega)
      by_cases q : i = e
      · subst q; exact (dg i (by omega) ih).mp (g1 i (by omega))
      · exact ih i (by omega)
  rcases Nat.lt_trichotomy n m with q | q | q
  · exact (y2 n (Nat.le_refl n) (by omega) (mg m (Nat.le_refl m) n q)).elim
  · exact q
  · have a1 := ag (n - 1 - m) (by omega)
    rw [show n - 1 - (n - 1 - m) = m by omega] at a1
    exact (g2 (by omega) ((dg m (by omega) (mg m (Nat.le_refl m))).mpr a1)).elim
theorem pw2_inj {b P Q : Int} (hb : 0 < b) (g : sol b P Q) (hP : 1 < P) {i j : Nat} (h : pw2 b P Q i = pw2 b P Q j) : i = j := by
  have st : ∀ i, (pw2 b P Q i).1 < (pw2 b P Q (i + 1)).1 := fun i => by
    have m := (pw2_mono hb g i).2
    have p := (pw2_sol hb g i).1
    have := Int.mul_le_mul_of_nonneg_left (show (2 : Int) ≤ P by omega) (Int.le_of_lt p)
    omega
  rcases Nat.lt_trichotomy i j with q | q | q
  · have h1 := (pw2_le hb g (j := i + 1) (j - (i + 1))).1
    rw [show i + 1 + (j - (i + 1)) = j by omega, ← h] at h1
    have := st i
    omega
  · exact q
  · have h1 := (pw2_le hb g (j := j + 1) (i - (j + 1))).1
    rw [show j + 1 + (i - (j + 1)) = i by omega, h] at h1
    have := st j
    omega
set_option maxHeartbeats 1000000 in
theorem e_part {τ ad : Nat → Nat} {w w' : Wd} {o : Nat} {bs ss ba st pm le ri ct cm : Nat → Int} {pb : Nat → PT} {P Q : Nat → Nat} {sp : Nat → Nat → Int} {th : Int} {t : Nat} (hg : GD ba st pm le ri sp cm th t) (hr : RLx bs ss pb P Q ct ba st pm le ri sp cm) (hO : OU w o)  {vi z : Int} {r' : Option Value} (h : (¬ ((0 ≤ vi ∧ vi ≤ 2)) ∧ r' = some (iI 1) ∧ w.1 ≤ w'.1 ∧ w'.2 = w.2) ∨ (((0 ≤ vi ∧ vi ≤ 2)) ∧ ¬ ((0 ≤ z ∧ z ≤ 5)) ∧ r' = some (iI 2) ∧ w.1 ≤ w'.1 ∧ w'.2 = w.2) ∨ (((0 ≤ vi ∧ vi ≤ 2)) ∧ ((0 ≤ z ∧ z ≤ 5)) ∧ r' = some (iI 0) ∧ ∃ (i : Nat), vi = (i : Int) ∧ ∃ (zz : Int) (uu : Wd) (sv : Value), (-2147483648 ≤ zz ∧ zz < 2147483648) ∧ (∃ r, (some (iI zz)) = some (iI (prV (bs i) r (ss i) z)) ∧ RT (bs i) r ∧ CS τ ad uu (bs) (ss) (pb) (P) (Q) (ct) ∧ KO τ w uu) ∧ w' = wset uu o (true, eO 9 [jJ zz, sv]))) {t2 ans : Int} (h2 : (¬ (0 ≤ vi ∧ vi ≤ 2) ∧ t2 = 1 ∧ ans = 0 ∨ (0 ≤ vi ∧ vi ≤ 2) ∧ ¬ (0 ≤ z ∧ z ≤ 5) ∧ t2 = 2 ∧ ans = 0 ∨ (0 ≤ vi ∧ vi ≤ 2) ∧ (0 ≤ z ∧ z ≤ 5) ∧ t2 = 0 ∧ ∃ r, RT (ba vi.toNat) r ∧ ans = prV (ba vi.toNat) r (st vi.toNat) z)) : EV r' w' o ans t2 := by
  rcases h with ⟨hb, rfl, h1, h3⟩ | ⟨hg1, hb, rfl, h1, h3⟩ | ⟨hg1, hg2, rfl, i, rfl, zz, uu, sv, hz, hp, rfl⟩
  · exact ev_no hO h3 (by omega) (by omega)
  · exact ev_no hO h3 (by omega) (by omega)
  · rcases h2 with ⟨c1, -⟩ | ⟨-, c1, -⟩ | ⟨c1, c2, c3, r2, e3, e4⟩
    · omega
    · omega
    · obtain ⟨r, e1, e2, -, -⟩ := hp
      obtain ⟨q1, q2, -⟩ := hr.1 i (by omega)
      simp only [Int.toNat_natCast] at e3 e4
      rw [q1] at e2
      rw [q1, q2] at e1
      have e5 := RT_uniq e2 e3
      subst e5
      have hv := prV_i (hg.1 i (by omega)) e2 (hg.2.1 i (by omega)) hg2
      rw [← e4] at e1 hv
      exact ev_go hz e1 hv c3
set_option maxHeartbeats 1000000 in
theorem e_period {τ ad : Nat → Nat} {w w' : Wd} {o : Nat} {bs ss ba st pm le ri ct cm : Nat → Int} {pb : Nat → PT} {P Q : Nat → Nat} {sp : Nat → Nat → Int} {th : Int} {t : Nat} (hg : GD ba st pm le ri sp cm th t) (hr : RLx bs ss pb P Q ct ba st pm le ri sp cm) (hO : OU w o)  {b : Int} {r' : Option Value} (h : (¬ (GB b) ∧ r' = some (iI 1) ∧ w.1 ≤ w'.1 ∧ w'.2 = w.2) ∨ ((GB b) ∧ r' = some (iI 0) ∧ ∃ (zz : Int) (uu : Wd) (sv : Value), (-2147483648 ≤ zz ∧ zz < 2147483648) ∧ (∃ (r : Int) (p : Nat), (some (iI zz)) = some (iI (p : Int)) ∧ RT b r ∧ isPer b r p ∧ CS τ ad uu (bs) (ss) (pb) (P) (Q) (ct) ∧ KO τ w uu) ∧ w' = wset uu o (true, eO 9 [jJ zz, sv]))) {t2 ans : Int} (h2 : (¬ GB b ∧ t2 = 1 ∧ ans = 0 ∨ GB b ∧ t2 = 0 ∧ ∃ (r : Int) (p : Nat), RT b r ∧ isPer b r p ∧ ans = p)) : EV r' w' o ans t2 := by
  rcases h with ⟨hb, rfl, h1, h3⟩ | ⟨hg2, rfl, zz, uu, sv, hz, hp, rfl⟩
  · exact ev_no hO h3 (by omega) (by rcases h2 with ⟨-, c, -⟩ | ⟨c, -⟩; exact c.symm; exact (hb c).elim)
  · rcases h2 with ⟨c1, -⟩ | ⟨c1, c3, r2, p2, e3, e4, e6⟩
    · exact (c1 hg2).elim
    · obtain ⟨r, p, e1, e2, e5, -, -⟩ := hp
      have e7 := RT_uniq e2 e3
      subst e7
      have e8 : p = p2 := by
        rcases Nat.lt_trichotomy p p2 with q | q | q
        · exact (e4.2.2.2 p e5.1 q e5.2.2.1).elim
        · exact q
        · exact (e5.2.2.2 p2 e4.1 q e4.2.2.1).elim
      subst e8
      have h16 := e5.2.1
      rw [← e6] at e1
      exact ev_go hz e1 (by omega) c3
set_option maxHeartbeats 1000000 in
theorem e_splitNumber {τ ad : Nat → Nat} {w w' : Wd} {o : Nat} {bs ss ba st pm le ri ct cm : Nat → Int} {pb : Nat → PT} {P Q : Nat → Nat} {sp : Nat → Nat → Int} {th : Int} {t : Nat} (hg : GD ba st pm le ri sp cm th t) (hr : RLx bs ss pb P Q ct ba st pm le ri sp cm) (hO : OU w o)  {vi z : Int} {r' : Option Value} (h : (¬ ((0 ≤ vi ∧ vi ≤ 2)) ∧ r' = some (iI 1) ∧ w.1 ≤ w'.1 ∧ w'.2 = w.2) ∨ (((0 ≤ vi ∧ vi ≤ 2)) ∧ ¬ ((0 ≤ z ∧ z ≤ 7)) ∧ r' = some (iI 2) ∧ w.1 ≤ w'.1 ∧ w'.2 = w.2) ∨ (((0 ≤ vi ∧ vi ≤ 2)) ∧ ((0 ≤ z ∧ z ≤ 7)) ∧ r' = some (iI 0) ∧ ∃ (i : Nat), vi = (i : Int) ∧ ∃ (zz : Int) (uu : Wd) (sv : Value), (-2147483648 ≤ zz ∧ zz < 2147483648) ∧ ((some (iI zz)) = some (iI (szV (spF (P i) (Q i)) z)) ∧ CS τ ad uu (bs) (ss) (pb) (P) (Q) (ct) ∧ KO τ w uu) ∧ w' = wset uu o (true, eO 9 [jJ zz, sv]))) {t2 ans : Int} (h2 : (¬ (0 ≤ vi ∧ vi ≤ 2) ∧ t2 = 1 ∧ ans = 0 ∨ (0 ≤ vi ∧ vi ≤ 2) ∧ ¬ (0 ≤ z ∧ z ≤ 7) ∧ t2 = 2 ∧ ans = 0 ∨ (0 ≤ vi ∧ vi ≤ 2) ∧ (0 ≤ z ∧ z ≤ 7) ∧ t2 = 0 ∧ ans = szV (sp vi.toNat) z)) : EV r' w' o ans t2 := by
  rcases h with ⟨hb, rfl, h1, h3⟩ | ⟨hg1, hb, rfl, h1, h3⟩ | ⟨hg1, hg2, rfl, i, rfl, zz, uu, sv, hz, hp, rfl⟩
  · exact ev_no hO h3 (by omega) (by omega)
  · exact ev_no hO h3 (by omega) (by omega)
  · rcases h2 with ⟨c1, -⟩ | ⟨-, c1, -⟩ | ⟨c1, c2, c3, e4⟩
    · omega
    · omega
    · obtain ⟨e1, -, -⟩ := hp
      obtain ⟨-, -, q3⟩ := hr.1 i (by omega)
      simp only [Int.toNat_natCast] at e4
      have e5 : szV (sp i) z = szV (spF (P i) (Q i)) z := szV_eq q3 hg2
      have hv := szV_i q3 hg2
      rw [← e5, ← e4] at e1
      rw [← e4] at hv
      exact ev_go hz e1 hv c3
set_option maxHeartbeats 1000000 in
theorem e_isPrime {τ ad : Nat → Nat} {w w' : Wd} {o : Nat} {bs ss ba st pm le ri ct cm : Nat → Int} {pb : Nat → PT} {P Q : Nat → Nat} {sp : Nat → Nat → Int} {th : Int} {t : Nat} (hg : GD ba st pm le ri sp cm th t) (hr : RLx bs ss pb P Q ct ba st pm le ri sp cm) (hO : OU w o)  {vn : Int} {r' : Option Value} (h : (¬ ((0 ≤ vn ∧ vn ≤ 999)) ∧ r' = some (iI 1) ∧ w.1 ≤ w'.1 ∧ w'.2 = w.2) ∨ (((0 ≤ vn ∧ vn ≤ 999)) ∧ r' = some (iI 0) ∧ ∃ (n : Nat), vn = (n : Int) ∧ ∃ (zz : Int) (uu : Wd) (sv : Value), (-2147483648 ≤ zz ∧ zz < 2147483648) ∧ ((some (iI zz)) = some (iI (bI (2 ≤ n ∧ prB n = true))) ∧ CS τ ad uu (bs) (ss) (pb) (P) (Q) (ct) ∧ KO τ w uu) ∧ w' = wset uu o (true, eO 9 [jJ zz, sv]))) {t2 ans : Int} (h2 : (¬ (0 ≤ vn ∧ vn ≤ 999) ∧ t2 = 1 ∧ ans = 0 ∨ (0 ≤ vn ∧ vn ≤ 999) ∧ t2 = 0 ∧ (ans = 1 ∧ (1 < vn.toNat ∧ prB vn.toNat = true) ∨ ans = 0 ∧ ¬ (1 < vn.toNat ∧ prB vn.toNat = true)))) : EV r' w' o ans t2 := by
  rcases h with ⟨hb, rfl, h1, h3⟩ | ⟨hg2, rfl, n, rfl, zz, uu, sv, hz, hp, rfl⟩
  · exact ev_no hO h3 (by omega) (by omega)
  · rcases h2 with ⟨c1, -⟩ | ⟨c1, c3, e4⟩
    · omega
    · obtain ⟨e1, -, -⟩ := hp
      simp only [Int.toNat_natCast] at e4
      rcases e4 with ⟨e4, e5⟩ | ⟨e4, e5⟩
      · rw [bI_t (show 2 ≤ n ∧ prB n = true from ⟨by omega, e5.2⟩), ← e4] at e1
        exact ev_go hz e1 (by omega) c3
      · rw [bI_f (show ¬ (2 ≤ n ∧ prB n = true) from fun q => e5 ⟨by omega, q.2⟩), ← e4] at e1
        exact ev_go hz e1 (by omega) c3
set_option maxHeartbeats 1000000 in
theorem e_symbol {τ ad : Nat → Nat} {w w' : Wd} {o : Nat} {bs ss ba st pm le ri ct cm : Nat → Int} {pb : Nat → PT} {P Q : Nat → Nat} {sp : Nat → Nat → Int} {th : Int} {t : Nat} (hg : GD ba st pm le ri sp cm th t) (hr : RLx bs ss pb P Q ct ba st pm le ri sp cm) (hO : OU w o)  {vi x : Int} {r' : Option Value} (h : (¬ ((0 ≤ vi ∧ vi ≤ 2)) ∧ r' = some (iI 1) ∧ w.1 ≤ w'.1 ∧ w'.2 = w.2) ∨ (((0 ≤ vi ∧ vi ≤ 2)) ∧ ¬ ((-999 ≤ x ∧ x ≤ 999)) ∧ r' = some (iI 2) ∧ w.1 ≤ w'.1 ∧ w'.2 = w.2) ∨ (((0 ≤ vi ∧ vi ≤ 2)) ∧ ((-999 ≤ x ∧ x ≤ 999)) ∧ r' = some (iI 0) ∧ ∃ (i : Nat), vi = (i : Int) ∧ ∃ (zz : Int) (uu : Wd) (sv : Value), (-2147483648 ≤ zz ∧ zz < 2147483648) ∧ ((some (iI zz)) = some (iI (if x % ((P i : Nat) : Int) = 0 then 0 else if pmN (x % ((P i : Nat) : Int)).toNat (P i) ((P i - 1) / 2) = 1 then 1 else -1)) ∧ CS τ ad uu (bs) (ss) (pb) (P) (Q) (ct) ∧ KO τ w uu) ∧ w' = wset uu o (true, eO 9 [jJ zz, sv]))) {t2 ans : Int} (h2 : (¬ (0 ≤ vi ∧ vi ≤ 2) ∧ t2 = 1 ∧ ans = 0 ∨ (0 ≤ vi ∧ vi ≤ 2) ∧ ¬ ((-999) ≤ x ∧ x ≤ 999) ∧ t2 = 2 ∧ ans = 0 ∨ (0 ≤ vi ∧ vi ≤ 2) ∧ ((-999) ≤ x ∧ x ≤ 999) ∧ t2 = 0 ∧ ∃ p k, SpR (sp vi.toNat) p k ∧ ans = if pmN (x % (p : Int)).toNat p ((p - 1) / 2) = p - 1 then -1 else ((pmN (x % (p : Int)).toNat p ((p - 1) / 2) : Nat) : Int))) : EV r' w' o ans t2 := by
  rcases h with ⟨hb, rfl, h1, h3⟩ | ⟨hg1, hb, rfl, h1, h3⟩ | ⟨hg1, hg2, rfl, i, rfl, zz, uu, sv, hz, hp, rfl⟩
  · exact ev_no hO h3 (by omega) (by omega)
  · exact ev_no hO h3 (by omega) (by omega)
  · rcases h2 with ⟨c1, -⟩ | ⟨-, c1, -⟩ | ⟨c1, c2, c3, p, k, e3, e4⟩
    · omega
    · omega
    · obtain ⟨e1, -, -⟩ := hp
      obtain ⟨-, -, q3⟩ := hr.1 i (by omega)
      simp only [Int.toNat_natCast] at e3
      obtain ⟨e5, e6⟩ := SpR_u e3 q3
      subst e5
      have h9 := (SPb_p q3.1.1).2.1
      have hl := pmN_lt (a := (x % ((P i : Nat) : Int)).toNat) (p := P i) (by omega) ((P i - 1) / 2)
      rw [sym_eq q3.1.1, ← e4] at e1
      exact ev_go hz e1 (by rw [e4]; split <;> omega) c3
set_option maxHeartbeats 1000000 in
theorem e_inverse {τ ad : Nat → Nat} {w w' : Wd} {o : Nat} {bs ss ba st pm le ri ct cm : Nat → Int} {pb : Nat → PT} {P Q : Nat → Nat} {sp : Nat → Nat → Int} {th : Int} {t : Nat} (hg : GD ba st pm le ri sp cm th t) (hr : RLx bs ss pb P Q ct ba st pm le ri sp cm) (hO : OU w o)  {vi x : Int} {r' : Option Value} (h : (¬ ((0 ≤ vi ∧ vi ≤ 2)) ∧ r' = some (iI 1) ∧ w.1 ≤ w'.1 ∧ w'.2 = w.2) ∨ (((0 ≤ vi ∧ vi ≤ 2)) ∧ ¬ ((-999 ≤ x ∧ x ≤ 999)) ∧ r' = some (iI 2) ∧ w.1 ≤ w'.1 ∧ w'.2 = w.2) ∨ (((0 ≤ vi ∧ vi ≤ 2)) ∧ ((-999 ≤ x ∧ x ≤ 999)) ∧ r' = some (iI 0) ∧ ∃ (i : Nat), vi = (i : Int) ∧ ∃ (zz : Int) (uu : Wd) (sv : Value), (-2147483648 ≤ zz ∧ zz < 2147483648) ∧ ((some (iI zz)) = some (iI ((pmN (x % ((P i : Nat) : Int)).toNat (P i) (P i - 2) : Nat) : Int)) ∧ CS τ ad uu (bs) (ss) (pb) (P) (Q) (ct) ∧ KO τ w uu) ∧ w' = wset uu o (true, eO 9 [jJ zz, sv]))) {t2 ans : Int} (h2 : (¬ (0 ≤ vi ∧ vi ≤ 2) ∧ t2 = 1 ∧ ans = 0 ∨ (0 ≤ vi ∧ vi ≤ 2) ∧ ¬ ((-999) ≤ x ∧ x ≤ 999) ∧ t2 = 2 ∧ ans = 0 ∨ (0 ≤ vi ∧ vi ≤ 2) ∧ ((-999) ≤ x ∧ x ≤ 999) ∧ t2 = 0 ∧ ∃ p k, SpR (sp vi.toNat) p k ∧ ((∃ j : Nat, 1 ≤ j ∧ j < p ∧ x % (p : Int) * (j : Int) % (p : Int) = 1 ∧ (∀ i : Nat, 1 ≤ i → i < j → x % (p : Int) * (i : Int) % (p : Int) ≠ 1) ∧ ans = j) ∨ (∀ i : Nat, 1 ≤ i → i < p → x % (p : Int) * (i : Int) % (p : Int) ≠ 1) ∧ ans = 0))) : EV r' w' o ans t2 := by
  rcases h with ⟨hb, rfl, h1, h3⟩ | ⟨hg1, hb, rfl, h1, h3⟩ | ⟨hg1, hg2, rfl, i, rfl, zz, uu, sv, hz, hp, rfl⟩
  · exact ev_no hO h3 (by omega) (by omega)
  · exact ev_no hO h3 (by omega) (by omega)
  · rcases h2 with ⟨c1, -⟩ | ⟨-, c1, -⟩ | ⟨c1, c2, c3, p, k, e3, e4⟩
    · omega
    · omega
    · obtain ⟨e1, -, -⟩ := hp
      obtain ⟨-, -, q3⟩ := hr.1 i (by omega)
      simp only [Int.toNat_natCast] at e3
      obtain ⟨e5, e6⟩ := SpR_u e3 q3
      subst e5
      have h9 := (SPb_p q3.1.1).2.1
      have hl := pmN_lt (a := (x % ((P i : Nat) : Int)).toNat) (p := P i) (by omega) (P i - 2)
      have e7 := inv_eq q3.1.1 e4
      rw [e7] at e1
      exact ev_go hz e1 (by rw [← e7]; omega) c3
set_option maxHeartbeats 1000000 in
theorem e_test {τ ad : Nat → Nat} {w w' : Wd} {o : Nat} {bs ss ba st pm le ri ct cm : Nat → Int} {pb : Nat → PT} {P Q : Nat → Nat} {sp : Nat → Nat → Int} {th : Int} {t : Nat} (hg : GD ba st pm le ri sp cm th t) (hr : RLx bs ss pb P Q ct ba st pm le ri sp cm) (hO : OU w o)  {vi z : Int} {r' : Option Value} (h : (¬ ((0 ≤ vi ∧ vi ≤ 2)) ∧ r' = some (iI 1) ∧ w.1 ≤ w'.1 ∧ w'.2 = w.2) ∨ (((0 ≤ vi ∧ vi ≤ 2)) ∧ ¬ ((0 ≤ z ∧ z ≤ 2)) ∧ r' = some (iI 2) ∧ w.1 ≤ w'.1 ∧ w'.2 = w.2) ∨ (((0 ≤ vi ∧ vi ≤ 2)) ∧ ((0 ≤ z ∧ z ≤ 2)) ∧ r' = some (iI 0) ∧ ∃ (i : Nat), vi = (i : Int) ∧ ∃ (zz : Int) (uu : Wd) (sv : Value), (-2147483648 ≤ zz ∧ zz < 2147483648) ∧ ((∃ x : Int, (some (iI zz)) = some (iI x) ∧ ∃ r, RT (bs i) r ∧ x = tstV (bs i) r (ss i).toNat z) ∧ CS τ ad uu (bs) (ss) (pb) (P) (Q) (ct) ∧ KO τ w uu) ∧ w' = wset uu o (true, eO 9 [jJ zz, sv]))) {t2 ans : Int} (h2 : (¬ (0 ≤ vi ∧ vi ≤ 2) ∧ t2 = 1 ∧ ans = 0 ∨ (0 ≤ vi ∧ vi ≤ 2) ∧ ¬ (0 ≤ z ∧ z ≤ 2) ∧ t2 = 2 ∧ ans = 0 ∨ (0 ≤ vi ∧ vi ≤ 2) ∧ (0 ≤ z ∧ z ≤ 2) ∧ t2 = 0 ∧ ∃ r, RT (ba vi.toNat) r ∧ ans = tstV (ba vi.toNat) r (st vi.toNat).toNat z)) : EV r' w' o ans t2 := by
  rcases h with ⟨hb, rfl, h1, h3⟩ | ⟨hg1, hb, rfl, h1, h3⟩ | ⟨hg1, hg2, rfl, i, rfl, zz, uu, sv, hz, hp, rfl⟩
  · exact ev_no hO h3 (by omega) (by omega)
  · exact ev_no hO h3 (by omega) (by omega)
  · rcases h2 with ⟨c1, -⟩ | ⟨-, c1, -⟩ | ⟨c1, c2, c3, r2, e3, e4⟩
    · omega
    · omega
    · obtain ⟨⟨x, e1, r, e2, e5⟩, -, -⟩ := hp
      obtain ⟨q1, q2, -⟩ := hr.1 i (by omega)
      simp only [Int.toNat_natCast] at e3 e4
      rw [q1] at e2
      rw [q1, q2] at e5
      have er := RT_uniq e2 e3
      subst er
      have hst := hg.2.1 i (by omega)
      have hv := tst_r (hg.1 i (by omega)) e2 (k := (st i).toNat) (by omega) z
      rw [e5, ← e4] at e1
      rw [← e4] at hv
      exact ev_go hz e1 (by omega) c3
set_option maxHeartbeats 1000000 in
theorem e_walkBits {τ ad : Nat → Nat} {w w' : Wd} {o : Nat} {bs ss ba st pm le ri ct cm : Nat → Int} {pb : Nat → PT} {P Q : Nat → Nat} {sp : Nat → Nat → Int} {th : Int} {t : Nat} (hg : GD ba st pm le ri sp cm th t) (hr : RLx bs ss pb P Q ct ba st pm le ri sp cm) (hO : OU w o)  {vi y z : Int} {r' : Option Value} (h : (¬ ((0 ≤ vi ∧ vi ≤ 2)) ∧ r' = some (iI 1) ∧ w.1 ≤ w'.1 ∧ w'.2 = w.2) ∨ (((0 ≤ vi ∧ vi ≤ 2)) ∧ ¬ ((0 ≤ z ∧ z ≤ 2)) ∧ r' = some (iI 2) ∧ w.1 ≤ w'.1 ∧ w'.2 = w.2) ∨ (((0 ≤ vi ∧ vi ≤ 2)) ∧ ((0 ≤ z ∧ z ≤ 2)) ∧ r' = some (iI 0) ∧ ∃ (i : Nat), vi = (i : Int) ∧ ∃ (zz : Int) (uu : Wd) (sv : Value), (-2147483648 ≤ zz ∧ zz < 2147483648) ∧ ((∃ x : Int, (some (iI zz)) = some (iI x) ∧ ∃ r, RT (bs i) r ∧ x = bitV (if y = 1 then (pq (bs i) r 1 r (ss i).toNat).1 else (pq (bs i) r 0 1 (ss i).toNat).1) z) ∧ CS τ ad uu (bs) (ss) (pb) (P) (Q) (ct) ∧ KO τ w uu) ∧ w' = wset uu o (true, eO 9 [jJ zz, sv]))) {t2 ans : Int} (h2 : (¬ (0 ≤ vi ∧ vi ≤ 2) ∧ t2 = 1 ∧ ans = 0 ∨ (0 ≤ vi ∧ vi ≤ 2) ∧ ¬ (0 ≤ z ∧ z ≤ 2) ∧ t2 = 2 ∧ ans = 0 ∨ (0 ≤ vi ∧ vi ≤ 2) ∧ (0 ≤ z ∧ z ≤ 2) ∧ t2 = 0 ∧ ∃ r, RT (ba vi.toNat) r ∧ ans = bitV (if y = 1 then (pq (ba vi.toNat) r 1 r (st vi.toNat).toNat).1 else (pq (ba vi.toNat) r 0 1 (st vi.toNat).toNat).1) z)) : EV r' w' o ans t2 := by
  rcases h with ⟨hb, rfl, h1, h3⟩ | ⟨hg1, hb, rfl, h1, h3⟩ | ⟨hg1, hg2, rfl, i, rfl, zz, uu, sv, hz, hp, rfl⟩
  · exact ev_no hO h3 (by omega) (by omega)
  · exact ev_no hO h3 (by omega) (by omega)
  · rcases h2 with ⟨c1, -⟩ | ⟨-, c1, -⟩ | ⟨c1, c2, c3, r2, e3, e4⟩
    · omega
    · omega
    · obtain ⟨⟨x, e1, r, e2, e5⟩, -, -⟩ := hp
      obtain ⟨q1, q2, -⟩ := hr.1 i (by omega)
      simp only [Int.toNat_natCast] at e3 e4
      rw [q1] at e2
      rw [q1, q2] at e5
      have er := RT_uniq e2 e3
      subst er
      have hst := hg.2.1 i (by omega)
      have hv := bitV_r (if y = 1 then (pq (ba i) r 1 r (st i).toNat).1 else (pq (ba i) r 0 1 (st i).toNat).1) z
      rw [e5, ← e4] at e1
      rw [← e4] at hv
      exact ev_go hz e1 (by omega) c3
set_option maxHeartbeats 1000000 in
theorem e_bit {τ ad : Nat → Nat} {w w' : Wd} {o : Nat} {bs ss ba st pm le ri ct cm : Nat → Int} {pb : Nat → PT} {P Q : Nat → Nat} {sp : Nat → Nat → Int} {th : Int} {t : Nat} (hg : GD ba st pm le ri sp cm th t) (hr : RLx bs ss pb P Q ct ba st pm le ri sp cm) (hO : OU w o)  {vi y vz : Int} {r' : Option Value} (h : (¬ ((0 ≤ vi ∧ vi ≤ 2)) ∧ r' = some (iI 1) ∧ w.1 ≤ w'.1 ∧ w'.2 = w.2) ∨ (((0 ≤ vi ∧ vi ≤ 2)) ∧ ¬ ((0 ≤ vz ∧ vz ≤ 119)) ∧ r' = some (iI 2) ∧ w.1 ≤ w'.1 ∧ w'.2 = w.2) ∨ (((0 ≤ vi ∧ vi ≤ 2)) ∧ ((0 ≤ vz ∧ vz ≤ 119)) ∧ r' = some (iI 0) ∧ ∃ (i : Nat) (z : Nat), vi = (i : Int) ∧ vz = (z : Int) ∧ ∃ (zz : Int) (uu : Wd) (sv : Value), (-2147483648 ≤ zz ∧ zz < 2147483648) ∧ ((∃ x : Int, (some (iI zz)) = some (iI x) ∧ (x = 0 ∨ x = 1) ∧ ∃ r, RT (bs i) r ∧ x = bI (bt (aB (if y = 1 then (pq (bs i) r 1 r (ss i).toNat).1 else (pq (bs i) r 0 1 (ss i).toNat).1)) z = 1)) ∧ CS τ ad uu (bs) (ss) (pb) (P) (Q) (ct) ∧ KO τ w uu) ∧ w' = wset uu o (true, eO 9 [jJ zz, sv]))) {t2 ans : Int} (h2 : (¬ (0 ≤ vi ∧ vi ≤ 2) ∧ t2 = 1 ∧ ans = 0 ∨ (0 ≤ vi ∧ vi ≤ 2) ∧ ¬ (0 ≤ vz ∧ vz ≤ 119) ∧ t2 = 2 ∧ ans = 0 ∨ (0 ≤ vi ∧ vi ≤ 2) ∧ (0 ≤ vz ∧ vz ≤ 119) ∧ t2 = 0 ∧ ∃ r, RT (ba vi.toNat) r ∧ ans = bI (bt (aB (if y = 1 then (pq (ba vi.toNat) r 1 r (st vi.toNat).toNat).1 else (pq (ba vi.toNat) r 0 1 (st vi.toNat).toNat).1)) vz.toNat = 1))) : EV r' w' o ans t2 := by
  rcases h with ⟨hb, rfl, h1, h3⟩ | ⟨hg1, hb, rfl, h1, h3⟩ | ⟨hg1, hg2, rfl, i, z, rfl, rfl, zz, uu, sv, hz, hp, rfl⟩
  · exact ev_no hO h3 (by omega) (by omega)
  · exact ev_no hO h3 (by omega) (by omega)
  · rcases h2 with ⟨c1, -⟩ | ⟨-, c1, -⟩ | ⟨c1, c2, c3, r2, e3, e4⟩
    · omega
    · omega
    · obtain ⟨⟨x, e1, -, r, e2, e5⟩, -, -⟩ := hp
      obtain ⟨q1, q2, -⟩ := hr.1 i (by omega)
      simp only [Int.toNat_natCast] at e3 e4
      rw [q1] at e2
      rw [q1, q2] at e5
      have er := RT_uniq e2 e3
      subst er
      have hst := hg.2.1 i (by omega)
      rw [e5, ← e4] at e1
      exact ev_go hz e1 (by rw [e4]; have := bI_01 (bt (aB (if y = 1 then (pq (ba i) r 1 r (st i).toNat).1 else (pq (ba i) r 0 1 (st i).toNat).1)) z = 1); omega) c3
set_option maxHeartbeats 1000000 in
theorem e_isNear {τ ad : Nat → Nat} {w w' : Wd} {o : Nat} {bs ss ba st pm le ri ct cm : Nat → Int} {pb : Nat → PT} {P Q : Nat → Nat} {sp : Nat → Nat → Int} {th : Int} {t : Nat} (hg : GD ba st pm le ri sp cm th t) (hr : RLx bs ss pb P Q ct ba st pm le ri sp cm) (hO : OU w o)  {vi z : Int} {r' : Option Value} (h : (¬ ((0 ≤ vi ∧ vi ≤ 2)) ∧ r' = some (iI 1) ∧ w.1 ≤ w'.1 ∧ w'.2 = w.2) ∨ (((0 ≤ vi ∧ vi ≤ 2)) ∧ ¬ ((1 ≤ z ∧ z ≤ 3)) ∧ r' = some (iI 2) ∧ w.1 ≤ w'.1 ∧ w'.2 = w.2) ∨ (((0 ≤ vi ∧ vi ≤ 2)) ∧ ((1 ≤ z ∧ z ≤ 3)) ∧ r' = some (iI 0) ∧ ∃ (i : Nat), vi = (i : Int) ∧ ∃ (zz : Int) (uu : Wd) (sv : Value), (-2147483648 ≤ zz ∧ zz < 2147483648) ∧ ((∃ x : Int, (some (iI zz)) = some (iI x) ∧ (x = 0 ∨ x = 1) ∧ ∃ r, RT (bs i) r ∧ (x = 1 ∧ nearP (bs i) r z (ss i).toNat ∨ x = 0 ∧ ¬ nearP (bs i) r z (ss i).toNat)) ∧ CS τ ad uu (bs) (ss) (pb) (P) (Q) (ct) ∧ KO τ w uu) ∧ w' = wset uu o (true, eO 9 [jJ zz, sv]))) {t2 ans : Int} (h2 : (¬ (0 ≤ vi ∧ vi ≤ 2) ∧ t2 = 1 ∧ ans = 0 ∨ (0 ≤ vi ∧ vi ≤ 2) ∧ ¬ (1 ≤ z ∧ z ≤ 3) ∧ t2 = 2 ∧ ans = 0 ∨ (0 ≤ vi ∧ vi ≤ 2) ∧ (1 ≤ z ∧ z ≤ 3) ∧ t2 = 0 ∧ ∃ r, RT (ba vi.toNat) r ∧ (ans = 1 ∧ nearP (ba vi.toNat) r z (st vi.toNat).toNat ∨ ans = 0 ∧ ¬ nearP (ba vi.toNat) r z (st vi.toNat).toNat))) : EV r' w' o ans t2 := by
  rcases h with ⟨hb, rfl, h1, h3⟩ | ⟨hg1, hb, rfl, h1, h3⟩ | ⟨hg1, hg2, rfl, i, rfl, zz, uu, sv, hz, hp, rfl⟩
  · exact ev_no hO h3 (by omega) (by omega)
  · exact ev_no hO h3 (by omega) (by omega)
  · rcases h2 with ⟨c1, -⟩ | ⟨-, c1, -⟩ | ⟨c1, c2, c3, r2, e3, e4⟩
    · omega
    · omega
    · obtain ⟨⟨x, e1, -, r, e2, e5⟩, -, -⟩ := hp
      obtain ⟨q1, q2, -⟩ := hr.1 i (by omega)
      simp only [Int.toNat_natCast] at e3 e4
      rw [q1] at e2
      rw [q1, q2] at e5
      have er := RT_uniq e2 e3
      subst er
      have hst := hg.2.1 i (by omega)
      have ex : x = ans ∧ (ans = 0 ∨ ans = 1) := by
        rcases e5 with ⟨f1, f2⟩ | ⟨f1, f2⟩
        · rcases e4 with ⟨d1, d2⟩ | ⟨d1, d2⟩
          · exact ⟨by omega, by omega⟩
          · exact (d2 f2).elim
        · rcases e4 with ⟨d1, d2⟩ | ⟨d1, d2⟩
          · exact (f2 d2).elim
          · exact ⟨by omega, by omega⟩
      rw [ex.1] at e1
      exact ev_go hz e1 (by have := ex.2; omega) c3
set_option maxHeartbeats 1000000 in
theorem e_alike {τ ad : Nat → Nat} {w w' : Wd} {o : Nat} {bs ss ba st pm le ri ct cm : Nat → Int} {pb : Nat → PT} {P Q : Nat → Nat} {sp : Nat → Nat → Int} {th : Int} {t : Nat} (hg : GD ba st pm le ri sp cm th t) (hr : RLx bs ss pb P Q ct ba st pm le ri sp cm) (hO : OU w o)  {vi : Int} {r' : Option Value} (h : (¬ ((0 ≤ vi ∧ vi ≤ 2)) ∧ r' = some (iI 1) ∧ w.1 ≤ w'.1 ∧ w'.2 = w.2) ∨ (((0 ≤ vi ∧ vi ≤ 2)) ∧ r' = some (iI 0) ∧ ∃ (i : Nat), vi = (i : Int) ∧ ∃ (zz : Int) (uu : Wd) (sv : Value), (-2147483648 ≤ zz ∧ zz < 2147483648) ∧ ((∃ x : Int, (some (iI zz)) = some (iI x) ∧ ∃ r, RT (bs i) r ∧ ∃ n : Nat, n ≤ 17 ∧ x = (n : Int) - 1 ∧ alkP (bs i) (pq (bs i) r 1 r (ss i).toNat).1 (pq (bs i) r 0 1 (ss i).toNat).1 n) ∧ CS τ ad uu (bs) (ss) (pb) (P) (Q) (ct) ∧ KO τ w uu) ∧ w' = wset uu o (true, eO 9 [jJ zz, sv]))) {t2 ans : Int} (h2 : (¬ (0 ≤ vi ∧ vi ≤ 2) ∧ t2 = 1 ∧ ans = 0 ∨ (0 ≤ vi ∧ vi ≤ 2) ∧ t2 = 0 ∧ ∃ r, RT (ba vi.toNat) r ∧ ∃ n : Nat, n ≤ 17 ∧ ans = n - 1 ∧ (∀ i, i < n → rpD (ba vi.toNat) i (lfD (pq (ba vi.toNat) r 1 r (st vi.toNat).toNat).1 (pq (ba vi.toNat) r 0 1 (st vi.toNat).toNat).1 i / (pq (ba vi.toNat) r 0 1 (st vi.toNat).toNat).1)) ∧ (n < 17 → ¬ rpD (ba vi.toNat) n (lfD (pq (ba vi.toNat) r 1 r (st vi.toNat).toNat).1 (pq (ba vi.toNat) r 0 1 (st vi.toNat).toNat).1 n / (pq (ba vi.toNat) r 0 1 (st vi.toNat).toNat).1)))) : EV r' w' o ans t2 := by
  rcases h with ⟨hb, rfl, h1, h3⟩ | ⟨hg1, rfl, i, rfl, zz, uu, sv, hz, hp, rfl⟩
  · exact ev_no hO h3 (by omega) (by omega)
  · rcases h2 with ⟨c1, -⟩ | ⟨c1, c3, r2, e3, n2, hn2, e4, e7, e8⟩
    · omega
    · obtain ⟨⟨x, e1, r, e2, n, hn, e5, e6⟩, -, -⟩ := hp
      obtain ⟨q1, q2, -⟩ := hr.1 i (by omega)
      simp only [Int.toNat_natCast] at e3 e7 e8
      rw [q1] at e2
      rw [q1, q2] at e6
      have er := RT_uniq e2 e3
      subst er
      have hst := hg.2.1 i (by omega)
      have hQ := (wk_f (hg.1 i (by omega)) e2 (k := (st i).toNat) (by omega)).2.2.2.2.2.1
      have en := alk_eq hQ hn hn2 e6 e7 e8
      rw [show x = ans by omega] at e1
      exact ev_go hz e1 (by omega) c3
set_option maxHeartbeats 1000000 in
theorem e_pairBase {τ ad : Nat → Nat} {w w' : Wd} {o : Nat} {bs ss ba st pm le ri ct cm : Nat → Int} {pb : Nat → PT} {P Q : Nat → Nat} {sp : Nat → Nat → Int} {th : Int} {t : Nat} (hg : GD ba st pm le ri sp cm th t) (hr : RLx bs ss pb P Q ct ba st pm le ri sp cm) (hO : OU w o)  {vi : Int} {r' : Option Value} (h : (¬ ((0 ≤ vi ∧ vi ≤ 2)) ∧ r' = some (iI 1) ∧ w.1 ≤ w'.1 ∧ w'.2 = w.2) ∨ (((0 ≤ vi ∧ vi ≤ 2)) ∧ r' = some (iI 0) ∧ ∃ (i : Nat), vi = (i : Int) ∧ ∃ (zz : Int) (uu : Wd) (sv : Value), (-2147483648 ≤ zz ∧ zz < 2147483648) ∧ ((some (iI zz)) = some (iI (pb i).1) ∧ CS τ ad uu (bs) (ss) (pb) (P) (Q) (ct) ∧ KO τ w uu) ∧ w' = wset uu o (true, eO 9 [jJ zz, sv]))) {t2 ans : Int} (h2 : (¬ (0 ≤ vi ∧ vi ≤ 2) ∧ t2 = 1 ∧ ans = 0 ∨ (0 ≤ vi ∧ vi ≤ 2) ∧ t2 = 0 ∧ ans = pm vi.toNat)) : EV r' w' o ans t2 := by
  rcases h with ⟨hb, rfl, h1, h3⟩ | ⟨hg1, rfl, i, rfl, zz, uu, sv, hz, hp, rfl⟩
  · exact ev_no hO h3 (by omega) (by omega)
  · rcases h2 with ⟨c1, -⟩ | ⟨c1, c3, e4⟩
    · omega
    · obtain ⟨e1, -, -⟩ := hp
      rw [hr.2.1 i (by omega)] at e1
      dsimp only at e1
      simp only [Int.toNat_natCast] at e4
      have hv := (hg.2.2.1 i (by omega)).1
      have hv1 := hv.1
      have hv2 := hv.2.1
      rw [← e4] at e1 hv1 hv2
      exact ev_go hz e1 (by omega) c3
set_option maxHeartbeats 1000000 in
theorem e_pairBits {τ ad : Nat → Nat} {w w' : Wd} {o : Nat} {bs ss ba st pm le ri ct cm : Nat → Int} {pb : Nat → PT} {P Q : Nat → Nat} {sp : Nat → Nat → Int} {th : Int} {t : Nat} (hg : GD ba st pm le ri sp cm th t) (hr : RLx bs ss pb P Q ct ba st pm le ri sp cm) (hO : OU w o)  {vi y z : Int} {r' : Option Value} (h : (¬ ((0 ≤ vi ∧ vi ≤ 2)) ∧ r' = some (iI 1) ∧ w.1 ≤ w'.1 ∧ w'.2 = w.2) ∨ (((0 ≤ vi ∧ vi ≤ 2)) ∧ ¬ ((0 ≤ z ∧ z ≤ 2)) ∧ r' = some (iI 2) ∧ w.1 ≤ w'.1 ∧ w'.2 = w.2) ∨ (((0 ≤ vi ∧ vi ≤ 2)) ∧ ((0 ≤ z ∧ z ≤ 2)) ∧ r' = some (iI 0) ∧ ∃ (i : Nat), vi = (i : Int) ∧ ∃ (zz : Int) (uu : Wd) (sv : Value), (-2147483648 ≤ zz ∧ zz < 2147483648) ∧ ((some (iI zz)) = some (iI (bitV (sdV y (pb i)) z)) ∧ CS τ ad uu (bs) (ss) (pb) (P) (Q) (ct) ∧ KO τ w uu) ∧ w' = wset uu o (true, eO 9 [jJ zz, sv]))) {t2 ans : Int} (h2 : (¬ (0 ≤ vi ∧ vi ≤ 2) ∧ t2 = 1 ∧ ans = 0 ∨ (0 ≤ vi ∧ vi ≤ 2) ∧ ¬ (0 ≤ z ∧ z ≤ 2) ∧ t2 = 2 ∧ ans = 0 ∨ (0 ≤ vi ∧ vi ≤ 2) ∧ (0 ≤ z ∧ z ≤ 2) ∧ t2 = 0 ∧ ans = bitV (if y = 1 then le vi.toNat else ri vi.toNat) z)) : EV r' w' o ans t2 := by
  rcases h with ⟨hb, rfl, h1, h3⟩ | ⟨hg1, hb, rfl, h1, h3⟩ | ⟨hg1, hg2, rfl, i, rfl, zz, uu, sv, hz, hp, rfl⟩
  · exact ev_no hO h3 (by omega) (by omega)
  · exact ev_no hO h3 (by omega) (by omega)
  · rcases h2 with ⟨c1, -⟩ | ⟨-, c1, -⟩ | ⟨c1, c2, c3, e4⟩
    · omega
    · omega
    · obtain ⟨e1, -, -⟩ := hp
      rw [hr.2.1 i (by omega)] at e1
      unfold sdV at e1
      dsimp only at e1
      simp only [Int.toNat_natCast] at e4
      have hv := bitV_r (if y = 1 then le i else ri i) z
      rw [← e4] at e1 hv
      exact ev_go hz e1 (by omega) c3
set_option maxHeartbeats 1000000 in
theorem e_rank {τ ad : Nat → Nat} {w w' : Wd} {o : Nat} {bs ss ba st pm le ri ct cm : Nat → Int} {pb : Nat → PT} {P Q : Nat → Nat} {sp : Nat → Nat → Int} {th : Int} {t : Nat} (hg : GD ba st pm le ri sp cm th t) (hr : RLx bs ss pb P Q ct ba st pm le ri sp cm) (hO : OU w o)  {vi : Int} {r' : Option Value} (h : (¬ ((0 ≤ vi ∧ vi ≤ 2)) ∧ r' = some (iI 1) ∧ w.1 ≤ w'.1 ∧ w'.2 = w.2) ∨ (((0 ≤ vi ∧ vi ≤ 2)) ∧ r' = some (iI 0) ∧ ∃ (i : Nat), vi = (i : Int) ∧ ∃ (zz : Int) (uu : Wd) (sv : Value), (-2147483648 ≤ zz ∧ zz < 2147483648) ∧ ((∃ x : Int, (some (iI zz)) = some (iI x) ∧ rnkP (pb i) x) ∧ (∃ pb' : Nat → PT, (∀ j, j < 3 → pb' j = pb j) ∧ CS τ ad uu (bs) (ss) (pb') (P) (Q) (ct)) ∧ KO τ w uu) ∧ w' = wset uu o (true, eO 9 [jJ zz, sv]))) {t2 ans : Int} (h2 : (¬ (0 ≤ vi ∧ vi ≤ 2) ∧ t2 = 1 ∧ ans = 0 ∨ (0 ≤ vi ∧ vi ≤ 2) ∧ t2 = 0 ∧ (ans = -1 ∧ ¬ le vi.toNat * le vi.toNat - pm vi.toNat * (ri vi.toNat * ri vi.toNat) = 1 ∨ le vi.toNat * le vi.toNat - pm vi.toNat * (ri vi.toNat * ri vi.toNat) = 1 ∧ ∃ (r : Int) (j : Nat), RT (pm vi.toNat) r ∧ ans = j ∧ pw2 (pm vi.toNat) (leaP (pm vi.toNat) r) (leaQ (pm vi.toNat) r) j = (aB (le vi.toNat), aB (ri vi.toNat))))) : EV r' w' o ans t2 := by
  rcases h with ⟨hb, rfl, h1, h3⟩ | ⟨hg1, rfl, i, rfl, zz, uu, sv, hz, hp, rfl⟩
  · exact ev_no hO h3 (by omega) (by omega)
  · rcases h2 with ⟨c1, -⟩ | ⟨c1, c3, e4⟩
    · omega
    · obtain ⟨⟨x, e1, e5⟩, -, -⟩ := hp
      obtain ⟨k1, k2, k3⟩ := hg.2.2.1 i (by omega)
      simp only [Int.toNat_natCast] at e4
      unfold rnkP at e5
      rw [hr.2.1 i (by omega)] at e5
      dsimp only at e5
      have ex : x = ans ∧ -1 ≤ ans ∧ ans ≤ 42 := by
        rcases e5 with ⟨f1, f2⟩ | ⟨f1, r1, j1, f3, f4, f5⟩
        · rcases e4 with ⟨d1, d2⟩ | ⟨d1, r2, j2, d3, d4, d5⟩
          · exact ⟨by omega, by omega, by omega⟩
          · exact (f2 d1).elim
        · rcases e4 with ⟨d1, d2⟩ | ⟨d1, r2, j2, d3, d4, d5⟩
          · exact (d2 f1).elim
          · have er := RT_uniq f3 d3
            subst er
            have hb := k1.1
            obtain ⟨l1, l2, l3, l4, l5⟩ := lea_ok k1 f3
            have g : sol (pm i) (leaP (pm i) r1) (leaQ (pm i) r1) := ⟨by omega, by omega, l5⟩
            have ej := pw2_inj (by omega) g l1 (f5.trans d5.symm)
            have h42 := rk_42 (by omega) g l1 d5 (Int.not_le.mp k2)
            exact ⟨by omega, by omega, by omega⟩
      rw [ex.1] at e1
      exact ev_go hz e1 (by have := ex.2; omega) c3
set_option maxHeartbeats 1000000 in
theorem e_order {τ ad : Nat → Nat} {w w' : Wd} {o : Nat} {bs ss ba st pm le ri ct cm : Nat → Int} {pb : Nat → PT} {P Q : Nat → Nat} {sp : Nat → Nat → Int} {th : Int} {t : Nat} (hg : GD ba st pm le ri sp cm th t) (hr : RLx bs ss pb P Q ct ba st pm le ri sp cm) (hO : OU w o)  {vi vk y : Int} {r' : Option Value} (h : (¬ ((0 ≤ vi ∧ vi ≤ 2) ∧ (0 ≤ vk ∧ vk ≤ 2)) ∧ r' = some (iI 1) ∧ w.1 ≤ w'.1 ∧ w'.2 = w.2) ∨ (((0 ≤ vi ∧ vi ≤ 2) ∧ (0 ≤ vk ∧ vk ≤ 2)) ∧ r' = some (iI 0) ∧ ∃ (i : Nat) (k : Nat), vi = (i : Int) ∧ vk = (k : Int) ∧ ∃ (zz : Int) (uu : Wd) (sv : Value), (-2147483648 ≤ zz ∧ zz < 2147483648) ∧ ((∃ x : Int, (some (iI zz)) = some (iI x) ∧ (sdV y (pb i) < sdV y (pb k) ∧ x = -1 ∨ sdV y (pb i) = sdV y (pb k) ∧ x = 0 ∨ sdV y (pb k) < sdV y (pb i) ∧ x = 1)) ∧ CS τ ad uu (bs) (ss) (pb) (P) (Q) (ct) ∧ KO τ w uu) ∧ w' = wset uu o (true, eO 9 [jJ zz, sv]))) {t2 ans : Int} (h2 : (¬ ((0 ≤ vi ∧ vi ≤ 2) ∧ (0 ≤ vk ∧ vk ≤ 2)) ∧ t2 = 1 ∧ ans = 0 ∨ ((0 ≤ vi ∧ vi ≤ 2) ∧ (0 ≤ vk ∧ vk ≤ 2)) ∧ t2 = 0 ∧ ((if y = 1 then le vi.toNat else ri vi.toNat) < (if y = 1 then le vk.toNat else ri vk.toNat) ∧ ans = -1 ∨ (if y = 1 then le vi.toNat else ri vi.toNat) = (if y = 1 then le vk.toNat else ri vk.toNat) ∧ ans = 0 ∨ (if y = 1 then le vk.toNat else ri vk.toNat) < (if y = 1 then le vi.toNat else ri vi.toNat) ∧ ans = 1))) : EV r' w' o ans t2 := by
  rcases h with ⟨hb, rfl, h1, h3⟩ | ⟨hg1, rfl, i, k, rfl, rfl, zz, uu, sv, hz, hp, rfl⟩
  · exact ev_no hO h3 (by omega) (by omega)
  · rcases h2 with ⟨c1, -⟩ | ⟨c1, c3, e4⟩
    · omega
    · obtain ⟨⟨x, e1, e5⟩, -, -⟩ := hp
      unfold sdV at e5
      rw [hr.2.1 i (by omega), hr.2.1 k (by omega)] at e5
      dsimp only at e5
      simp only [Int.toNat_natCast] at e4
      have ex : x = ans ∧ -1 ≤ ans ∧ ans ≤ 1 := by
        generalize (if y = 1 then le i else ri i) = A at *
        generalize (if y = 1 then le k else ri k) = B at *
        omega
      rw [ex.1] at e1
      exact ev_go hz e1 (by have := ex.2; omega) c3
set_option maxHeartbeats 1000000 in
theorem e_isSame {τ ad : Nat → Nat} {w w' : Wd} {o : Nat} {bs ss ba st pm le ri ct cm : Nat → Int} {pb : Nat → PT} {P Q : Nat → Nat} {sp : Nat → Nat → Int} {th : Int} {t : Nat} (hg : GD ba st pm le ri sp cm th t) (hr : RLx bs ss pb P Q ct ba st pm le ri sp cm) (hO : OU w o)  {vi vk : Int} {r' : Option Value} (h : (¬ ((0 ≤ vi ∧ vi ≤ 2) ∧ (0 ≤ vk ∧ vk ≤ 2)) ∧ r' = some (iI 1) ∧ w.1 ≤ w'.1 ∧ w'.2 = w.2) ∨ (((0 ≤ vi ∧ vi ≤ 2) ∧ (0 ≤ vk ∧ vk ≤ 2)) ∧ r' = some (iI 0) ∧ ∃ (i : Nat) (k : Nat), vi = (i : Int) ∧ vk = (k : Int) ∧ ∃ (zz : Int) (uu : Wd) (sv : Value), (-2147483648 ≤ zz ∧ zz < 2147483648) ∧ ((∃ x : Int, (some (iI zz)) = some (iI x) ∧ (x = 0 ∨ x = 1) ∧ x = bI ((pb i).1 = (pb k).1 ∧ (pb i).2.1 = (pb k).2.1 ∧ (pb i).2.2 = (pb k).2.2)) ∧ CS τ ad uu (bs) (ss) (pb) (P) (Q) (ct) ∧ KO τ w uu) ∧ w' = wset uu o (true, eO 9 [jJ zz, sv]))) {t2 ans : Int} (h2 : (¬ ((0 ≤ vi ∧ vi ≤ 2) ∧ (0 ≤ vk ∧ vk ≤ 2)) ∧ t2 = 1 ∧ ans = 0 ∨ ((0 ≤ vi ∧ vi ≤ 2) ∧ (0 ≤ vk ∧ vk ≤ 2)) ∧ t2 = 0 ∧ ans = bI (pm vi.toNat = pm vk.toNat ∧ le vi.toNat = le vk.toNat ∧ ri vi.toNat = ri vk.toNat))) : EV r' w' o ans t2 := by
  rcases h with ⟨hb, rfl, h1, h3⟩ | ⟨hg1, rfl, i, k, rfl, rfl, zz, uu, sv, hz, hp, rfl⟩
  · exact ev_no hO h3 (by omega) (by omega)
  · rcases h2 with ⟨c1, -⟩ | ⟨c1, c3, e4⟩
    · omega
    · obtain ⟨⟨x, e1, -, e5⟩, -, -⟩ := hp
      rw [hr.2.1 i (by omega), hr.2.1 k (by omega)] at e5
      dsimp only at e5
      simp only [Int.toNat_natCast] at e4
      have hv := bI_01 (pm i = pm k ∧ le i = le k ∧ ri i = ri k)
      rw [e5, ← e4] at e1
      rw [← e4] at hv
      exact ev_go hz e1 (by omega) c3
set_option maxHeartbeats 1000000 in
theorem e_house {τ ad : Nat → Nat} {w w' : Wd} {o : Nat} {bs ss ba st pm le ri ct cm : Nat → Int} {pb : Nat → PT} {P Q : Nat → Nat} {sp : Nat → Nat → Int} {th : Int} {t : Nat} (hg : GD ba st pm le ri sp cm th t) (hr : RLx bs ss pb P Q ct ba st pm le ri sp cm) (hO : OU w o) (ht : t < 2000) {z : Int} {r' : Option Value} (h : (¬ ((0 ≤ z ∧ z ≤ 4)) ∧ r' = some (iI 1) ∧ w.1 ≤ w'.1 ∧ w'.2 = w.2) ∨ (((0 ≤ z ∧ z ≤ 4)) ∧ r' = some (iI 0) ∧ ∃ (zz : Int) (uu : Wd) (sv : Value), (-2147483648 ≤ zz ∧ zz < 2147483648) ∧ ((some (iI zz)) = some (iI (ct z.toNat)) ∧ CS τ ad uu (bs) (ss) (pb) (P) (Q) (ct) ∧ KO τ w uu) ∧ w' = wset uu o (true, eO 9 [jJ zz, sv]))) {t2 ans : Int} (h2 : (¬ (0 ≤ z ∧ z ≤ 4) ∧ t2 = 1 ∧ ans = 0 ∨ (0 ≤ z ∧ z ≤ 4) ∧ t2 = 0 ∧ ans = cm z.toNat)) : EV r' w' o ans t2 := by
  rcases h with ⟨hb, rfl, h1, h3⟩ | ⟨hg2, rfl, zz, uu, sv, hz, hp, rfl⟩
  · exact ev_no hO h3 (by omega) (by omega)
  · rcases h2 with ⟨c1, -⟩ | ⟨c1, c3, e4⟩
    · omega
    · obtain ⟨e1, -, -⟩ := hp
      have hv := hg.2.2.2.2.2 z.toNat (by omega)
      rw [hr.2.2 z.toNat (by omega), ← e4] at e1
      rw [← e4] at hv
      exact ev_go hz e1 (by omega) c3
set_option maxHeartbeats 1000000 in
theorem e_isRead {τ ad : Nat → Nat} {w w' : Wd} {o : Nat} {bs ss ba st pm le ri ct cm : Nat → Int} {pb : Nat → PT} {P Q : Nat → Nat} {sp : Nat → Nat → Int} {th : Int} {t : Nat} (hg : GD ba st pm le ri sp cm th t) (hr : RLx bs ss pb P Q ct ba st pm le ri sp cm) (hO : OU w o)  {vi z : Int} {r' : Option Value} (h : (¬ ((0 ≤ vi ∧ vi ≤ 2)) ∧ r' = some (iI 1) ∧ w.1 ≤ w'.1 ∧ w'.2 = w.2) ∨ (((0 ≤ vi ∧ vi ≤ 2)) ∧ ¬ ((z = 0 ∨ (2 ≤ z ∧ z ≤ 16))) ∧ r' = some (iI 2) ∧ w.1 ≤ w'.1 ∧ w'.2 = w.2) ∨ (((0 ≤ vi ∧ vi ≤ 2)) ∧ ((z = 0 ∨ (2 ≤ z ∧ z ≤ 16))) ∧ r' = some (iI 0) ∧ ∃ (i : Nat), vi = (i : Int) ∧ ∃ (zz : Int) (uu : Wd) (sv : Value), (-2147483648 ≤ zz ∧ zz < 2147483648) ∧ ((∃ x : Int, (some (iI zz)) = some (iI x) ∧ (x = 0 ∨ x = 1) ∧ x = 1) ∧ CS τ ad uu (bs) (ss) (pb) (P) (Q) (ct) ∧ KO τ w uu) ∧ w' = wset uu o (true, eO 9 [jJ zz, sv]))) {t2 ans : Int} (h2 : (¬ (0 ≤ vi ∧ vi ≤ 2) ∧ t2 = 1 ∧ ans = 0 ∨ (0 ≤ vi ∧ vi ≤ 2) ∧ ¬ (z = 0 ∨ (2 ≤ z ∧ z ≤ 16)) ∧ t2 = 2 ∧ ans = 0 ∨ (0 ≤ vi ∧ vi ≤ 2) ∧ (z = 0 ∨ (2 ≤ z ∧ z ≤ 16)) ∧ t2 = 0 ∧ ans = 1)) : EV r' w' o ans t2 := by
  rcases h with ⟨hb, rfl, h1, h3⟩ | ⟨hg1, hb, rfl, h1, h3⟩ | ⟨hg1, hg2, rfl, i, rfl, zz, uu, sv, hz, hp, rfl⟩
  · exact ev_no hO h3 (by omega) (by omega)
  · exact ev_no hO h3 (by omega) (by omega)
  · rcases h2 with ⟨c1, -⟩ | ⟨-, c1, -⟩ | ⟨c1, c2, c3, e4⟩
    · omega
    · omega
    · obtain ⟨⟨x, e1, -, e5⟩, -, -⟩ := hp
      rw [show x = ans by omega] at e1
      exact ev_go hz e1 (by omega) c3
