/-! calm calls whose answers are compared -/
def EV (r' : Option Value) (w' : Wd) (o : Nat) (ans t2 : Int) : Prop := ∃ k nv : Int, r' = some (iI k) ∧ OV w' o nv ∧ (k = 0 → -2147483648 ≤ nv ∧ nv < 2147483648) ∧ (k = 0 → nv = ans) ∧ k = t2
theorem ev_no {w w' : Wd} {o : Nat} {ans t2 k : Int} (hO : OU w o) (h : w'.2 = w.2) (hk : k ≠ 0) (ht : k = t2) : EV (some (iI k)) w' o ans t2 := by
  obtain ⟨n0, s0, hO⟩ := hO
  exact ⟨k, n0, rfl, ⟨s0, by rw [h]; exact hO⟩, fun q => absurd q hk, fun q => absurd q hk, ht⟩
theorem ev_go {uu : Wd} {o : Nat} {ans zz t2 : Int} {sv : Value} (hz : -2147483648 ≤ zz ∧ zz < 2147483648) (e : some (iI zz) = some (iI ans)) (ha : -2147483648 ≤ ans ∧ ans < 2147483648) (ht : t2 = 0) : EV (some (iI 0)) (wset uu o (true, eO 9 [jJ zz, sv])) o ans t2 := ⟨0, zz, rfl, ⟨sv, wset_s⟩, fun _ => hz, fun _ => iI_inj (Option.some.inj e) hz ha, ht.symm⟩
theorem szV_eq {f : Nat → Int} {p k : Nat} {z : Int} (h : SpR f p k) (hz : 0 ≤ z ∧ z ≤ 7) : szV f z = szV (spF p k) z := by
  obtain ⟨-, f0, f1, f2, f3, f4, f5⟩ := h
  rcases (show z = 0 ∨ z = 1 ∨ z = 2 ∨ z = 3 ∨ z = 4 ∨ z = 5 ∨ z = 6 ∨ z = 7 by omega) with q | q | q | q | q | q | q | q <;> subst q <;> simp [szV, spF, f0, f1, f2, f3, f4, f5]
set_option maxHeartbeats 1000000 in
theorem e_part {τ ad : Nat → Nat} {w w' : Wd} {o : Nat} {bs ss pb ba st pm le ri ct cm : Nat → Int} {P Q : Nat → Nat} {sp : Nat → Nat → Int} {th : Int} {t : Nat} (hg : GD ba st pm le ri sp cm th t) (hr : RLx bs ss P Q ct ba st sp cm) (hO : OU w o) {vi z : Int} {r' : Option Value} (h : (¬ ((0 ≤ vi ∧ vi ≤ 2)) ∧ r' = some (iI 1) ∧ w.1 ≤ w'.1 ∧ w'.2 = w.2) ∨ (((0 ≤ vi ∧ vi ≤ 2)) ∧ ¬ ((0 ≤ z ∧ z ≤ 5)) ∧ r' = some (iI 2) ∧ w.1 ≤ w'.1 ∧ w'.2 = w.2) ∨ (((0 ≤ vi ∧ vi ≤ 2)) ∧ ((0 ≤ z ∧ z ≤ 5)) ∧ r' = some (iI 0) ∧ ∃ (i : Nat), vi = (i : Int) ∧ ∃ (zz : Int) (uu : Wd) (sv : Value), (-2147483648 ≤ zz ∧ zz < 2147483648) ∧ (∃ r, some (iI zz) = some (iI (prV (bs i) r (ss i) z)) ∧ RT (bs i) r ∧ CS τ ad uu (bs) (ss) (pb) (P) (Q) (ct) ∧ KO τ w uu) ∧ w' = wset uu o (true, eO 9 [jJ zz, sv]))) {t2 ans : Int} (h2 : (¬ (0 ≤ vi ∧ vi ≤ 2) ∧ t2 = 1 ∧ ans = 0 ∨ (0 ≤ vi ∧ vi ≤ 2) ∧ ¬ (0 ≤ z ∧ z ≤ 5) ∧ t2 = 2 ∧ ans = 0 ∨ (0 ≤ vi ∧ vi ≤ 2) ∧ (0 ≤ z ∧ z ≤ 5) ∧ t2 = 0 ∧ ∃ r, RT (ba vi.toNat) r ∧ ans = prV (ba vi.toNat) r (st vi.toNat) z)) : EV r' w' o ans t2 := by
  rcases h with ⟨hb, rfl, h1, h3⟩ | ⟨hg1, hb, rfl, h1, h3⟩ | ⟨hg1, hg2, rfl, i, rfl, zz, uu, sv, hz, hp, rfl⟩
  · exact ev_no hO h3 (by omega) (by omega)
  · exact ev_no hO h3 (by omega) (by omega)
  · rcases h2 with ⟨c1, -⟩ | ⟨-, c1, -⟩ | ⟨c1, c2, c3, r2, e3, e4⟩
    · omega
    · omega
    · obtain ⟨r, e1, e2, -, -⟩ := hp
      obtain ⟨q1, q2, -⟩ := hr.1 i (by omega)
      simp only [Int.toNat_natCast] at e3 e4
      rw [q1] at e2
      rw [q1, q2] at e1
      have e5 := RT_uniq e2 e3
      subst e5
      have hv := prV_i (hg.1 i (by omega)) e2 (hg.2.1 i (by omega)) hg2
      rw [← e4] at e1 hv
      exact ev_go hz e1 hv c3
set_option maxHeartbeats 1000000 in
theorem e_period {τ ad : Nat → Nat} {w w' : Wd} {o : Nat} {bs ss pb ba st pm le ri ct cm : Nat → Int} {P Q : Nat → Nat} {sp : Nat → Nat → Int} {th : Int} {t : Nat} (hg : GD ba st pm le ri sp cm th t) (hr : RLx bs ss P Q ct ba st sp cm) (hO : OU w o) {b : Int} {r' : Option Value} (h : (¬ (GB b) ∧ r' = some (iI 1) ∧ w.1 ≤ w'.1 ∧ w'.2 = w.2) ∨ ((GB b) ∧ r' = some (iI 0) ∧ ∃ (zz : Int) (uu : Wd) (sv : Value), (-2147483648 ≤ zz ∧ zz < 2147483648) ∧ (∃ (r : Int) (p : Nat), some (iI zz) = some (iI (p : Int)) ∧ RT b r ∧ isPer b r p ∧ CS τ ad uu (bs) (ss) (pb) (P) (Q) (ct) ∧ KO τ w uu) ∧ w' = wset uu o (true, eO 9 [jJ zz, sv]))) {t2 ans : Int} (h2 : (¬ GB b ∧ t2 = 1 ∧ ans = 0 ∨ GB b ∧ t2 = 0 ∧ ∃ (r : Int) (p : Nat), RT b r ∧ isPer b r p ∧ ans = p)) : EV r' w' o ans t2 := by
  rcases h with ⟨hb, rfl, h1, h3⟩ | ⟨hg2, rfl, zz, uu, sv, hz, hp, rfl⟩
  · exact ev_no hO h3 (by omega) (by rcases h2 with ⟨-, c, -⟩ | ⟨c, -⟩; exact c.symm; exact (hb c).elim)
  · rcases h2 with ⟨c1, -⟩ | ⟨c1, c3, r2, p2, e3, e4, e6⟩
    · exact (c1 hg2).elim
    · obtain ⟨r, p, e1, e2, e5, -, -⟩ := hp
      have e7 := RT_uniq e2 e3
      subst e7
      have e8 : p = p2 := by
        rcases Nat.lt_trichotomy p p2 with q | q | q
        · exact (e4.2.2.2 p e5.1 q e5.2.2.1).elim
        · exact q
        · exact (e5.2.2.2 p2 e4.1 q e4.2.2.1).elim
      subst e8
      have h16 := e5.2.1
      rw [← e6] at e1
      exact ev_go hz e1 (by omega) c3
set_option maxHeartbeats 1000000 in
theorem e_splitNumber {τ ad : Nat → Nat} {w w' : Wd} {o : Nat} {bs ss pb ba st pm le ri ct cm : Nat → Int} {P Q : Nat → Nat} {sp : Nat → Nat → Int} {th : Int} {t : Nat} (hg : GD ba st pm le ri sp cm th t) (hr : RLx bs ss P Q ct ba st sp cm) (hO : OU w o) {vi z : Int} {r' : Option Value} (h : (¬ ((0 ≤ vi ∧ vi ≤ 2)) ∧ r' = some (iI 1) ∧ w.1 ≤ w'.1 ∧ w'.2 = w.2) ∨ (((0 ≤ vi ∧ vi ≤ 2)) ∧ ¬ ((0 ≤ z ∧ z ≤ 7)) ∧ r' = some (iI 2) ∧ w.1 ≤ w'.1 ∧ w'.2 = w.2) ∨ (((0 ≤ vi ∧ vi ≤ 2)) ∧ ((0 ≤ z ∧ z ≤ 7)) ∧ r' = some (iI 0) ∧ ∃ (i : Nat), vi = (i : Int) ∧ ∃ (zz : Int) (uu : Wd) (sv : Value), (-2147483648 ≤ zz ∧ zz < 2147483648) ∧ (some (iI zz) = some (iI (szV (spF (P i) (Q i)) z)) ∧ CS τ ad uu (bs) (ss) (pb) (P) (Q) (ct) ∧ KO τ w uu) ∧ w' = wset uu o (true, eO 9 [jJ zz, sv]))) {t2 ans : Int} (h2 : (¬ (0 ≤ vi ∧ vi ≤ 2) ∧ t2 = 1 ∧ ans = 0 ∨ (0 ≤ vi ∧ vi ≤ 2) ∧ ¬ (0 ≤ z ∧ z ≤ 7) ∧ t2 = 2 ∧ ans = 0 ∨ (0 ≤ vi ∧ vi ≤ 2) ∧ (0 ≤ z ∧ z ≤ 7) ∧ t2 = 0 ∧ ans = szV (sp vi.toNat) z)) : EV r' w' o ans t2 := by
  rcases h with ⟨hb, rfl, h1, h3⟩ | ⟨hg1, hb, rfl, h1, h3⟩ | ⟨hg1, hg2, rfl, i, rfl, zz, uu, sv, hz, hp, rfl⟩
  · exact ev_no hO h3 (by omega) (by omega)
  · exact ev_no hO h3 (by omega) (by omega)
  · rcases h2 with ⟨c1, -⟩ | ⟨-, c1, -⟩ | ⟨c1, c2, c3, e4⟩
    · omega
    · omega
    · obtain ⟨e1, -, -⟩ := hp
      obtain ⟨-, -, q3⟩ := hr.1 i (by omega)
      simp only [Int.toNat_natCast] at e4
      have e5 : szV (sp i) z = szV (spF (P i) (Q i)) z := szV_eq q3 hg2
      have hv := szV_i q3 hg2
      rw [← e5, ← e4] at e1
      rw [← e4] at hv
      exact ev_go hz e1 hv c3
set_option maxHeartbeats 1000000 in
theorem e_isPrime {τ ad : Nat → Nat} {w w' : Wd} {o : Nat} {bs ss pb ba st pm le ri ct cm : Nat → Int} {P Q : Nat → Nat} {sp : Nat → Nat → Int} {th : Int} {t : Nat} (hg : GD ba st pm le ri sp cm th t) (hr : RLx bs ss P Q ct ba st sp cm) (hO : OU w o) {vn : Int} {r' : Option Value} (h : (¬ ((0 ≤ vn ∧ vn ≤ 999)) ∧ r' = some (iI 1) ∧ w.1 ≤ w'.1 ∧ w'.2 = w.2) ∨ (((0 ≤ vn ∧ vn ≤ 999)) ∧ r' = some (iI 0) ∧ ∃ (n : Nat), vn = (n : Int) ∧ ∃ (zz : Int) (uu : Wd) (sv : Value), (-2147483648 ≤ zz ∧ zz < 2147483648) ∧ (some (iI zz) = some (iI (bI (2 ≤ n ∧ prB n = true))) ∧ CS τ ad uu (bs) (ss) (pb) (P) (Q) (ct) ∧ KO τ w uu) ∧ w' = wset uu o (true, eO 9 [jJ zz, sv]))) {t2 ans : Int} (h2 : (¬ (0 ≤ vn ∧ vn ≤ 999) ∧ t2 = 1 ∧ ans = 0 ∨ (0 ≤ vn ∧ vn ≤ 999) ∧ t2 = 0 ∧ (ans = 1 ∧ (1 < vn.toNat ∧ prB vn.toNat = true) ∨ ans = 0 ∧ ¬ (1 < vn.toNat ∧ prB vn.toNat = true)))) : EV r' w' o ans t2 := by
  rcases h with ⟨hb, rfl, h1, h3⟩ | ⟨hg2, rfl, n, rfl, zz, uu, sv, hz, hp, rfl⟩
  · exact ev_no hO h3 (by omega) (by omega)
  · rcases h2 with ⟨c1, -⟩ | ⟨c1, c3, e4⟩
    · omega
    · obtain ⟨e1, -, -⟩ := hp
      simp only [Int.toNat_natCast] at e4
      rcases e4 with ⟨e4, e5⟩ | ⟨e4, e5⟩
      · rw [bI_t (show 2 ≤ n ∧ prB n = true from ⟨by omega, e5.2⟩), ← e4] at e1
        exact ev_go hz e1 (by omega) c3
      · rw [bI_f (show ¬ (2 ≤ n ∧ prB n = true) from fun q => e5 ⟨by omega, q.2⟩), ← e4] at e1
        exact ev_go hz e1 (by omega) c3
set_option maxHeartbeats 1000000 in
theorem e_symbol {τ ad : Nat → Nat} {w w' : Wd} {o : Nat} {bs ss pb ba st pm le ri ct cm : Nat → Int} {P Q : Nat → Nat} {sp : Nat → Nat → Int} {th : Int} {t : Nat} (hg : GD ba st pm le ri sp cm th t) (hr : RLx bs ss P Q ct ba st sp cm) (hO : OU w o) {vi x : Int} {r' : Option Value} (h : (¬ ((0 ≤ vi ∧ vi ≤ 2)) ∧ r' = some (iI 1) ∧ w.1 ≤ w'.1 ∧ w'.2 = w.2) ∨ (((0 ≤ vi ∧ vi ≤ 2)) ∧ ¬ ((-999 ≤ x ∧ x ≤ 999)) ∧ r' = some (iI 2) ∧ w.1 ≤ w'.1 ∧ w'.2 = w.2) ∨ (((0 ≤ vi ∧ vi ≤ 2)) ∧ ((-999 ≤ x ∧ x ≤ 999)) ∧ r' = some (iI 0) ∧ ∃ (i : Nat), vi = (i : Int) ∧ ∃ (zz : Int) (uu : Wd) (sv : Value), (-2147483648 ≤ zz ∧ zz < 2147483648) ∧ (some (iI zz) = some (iI (if x % ((P i : Nat) : Int) = 0 then 0 else if pmN (x % ((P i : Nat) : Int)).toNat (P i) ((P i - 1) / 2) = 1 then 1 else -1)) ∧ CS τ ad uu (bs) (ss) (pb) (P) (Q) (ct) ∧ KO τ w uu) ∧ w' = wset uu o (true, eO 9 [jJ zz, sv]))) {t2 ans : Int} (h2 : (¬ (0 ≤ vi ∧ vi ≤ 2) ∧ t2 = 1 ∧ ans = 0 ∨ (0 ≤ vi ∧ vi ≤ 2) ∧ ¬ ((-999) ≤ x ∧ x ≤ 999) ∧ t2 = 2 ∧ ans = 0 ∨ (0 ≤ vi ∧ vi ≤ 2) ∧ ((-999) ≤ x ∧ x ≤ 999) ∧ t2 = 0 ∧ ∃ p k, SpR (sp vi.toNat) p k ∧ ans = if pmN (x % (p : Int)).toNat p ((p - 1) / 2) = p - 1 then -1 else ((pmN (x % (p : Int)).toNat p ((p - 1) / 2) : Nat) : Int))) : EV r' w' o ans t2 := by
  rcases h with ⟨hb, rfl, h1, h3⟩ | ⟨hg1, hb, rfl, h1, h3⟩ | ⟨hg1, hg2, rfl, i, rfl, zz, uu, sv, hz, hp, rfl⟩
  · exact ev_no hO h3 (by omega) (by omega)
  · exact ev_no hO h3 (by omega) (by omega)
  · rcases h2 with ⟨c1, -⟩ | ⟨-, c1, -⟩ | ⟨c1, c2, c3, p, k, e3, e4⟩
    · omega
    · omega
    · obtain ⟨e1, -, -⟩ := hp
      obtain ⟨-, -, q3⟩ := hr.1 i (by omega)
      simp only [Int.toNat_natCast] at e3
      obtain ⟨e5, e6⟩ := SpR_u e3 q3
      subst e5
      have h9 := (SPb_p q3.1.1).2.1
      have hl := pmN_lt (a := (x % ((P i : Nat) : Int)).toNat) (p := P i) (by omega) ((P i - 1) / 2)
      rw [sym_eq q3.1.1, ← e4] at e1
      exact ev_go hz e1 (by rw [e4]; split <;> omega) c3
set_option maxHeartbeats 1000000 in
theorem e_inverse {τ ad : Nat → Nat} {w w' : Wd} {o : Nat} {bs ss pb ba st pm le ri ct cm : Nat → Int} {P Q : Nat → Nat} {sp : Nat → Nat → Int} {th : Int} {t : Nat} (hg : GD ba st pm le ri sp cm th t) (hr : RLx bs ss P Q ct ba st sp cm) (hO : OU w o) {vi x : Int} {r' : Option Value} (h : (¬ ((0 ≤ vi ∧ vi ≤ 2)) ∧ r' = some (iI 1) ∧ w.1 ≤ w'.1 ∧ w'.2 = w.2) ∨ (((0 ≤ vi ∧ vi ≤ 2)) ∧ ¬ ((-999 ≤ x ∧ x ≤ 999)) ∧ r' = some (iI 2) ∧ w.1 ≤ w'.1 ∧ w'.2 = w.2) ∨ (((0 ≤ vi ∧ vi ≤ 2)) ∧ ((-999 ≤ x ∧ x ≤ 999)) ∧ r' = some (iI 0) ∧ ∃ (i : Nat), vi = (i : Int) ∧ ∃ (zz : Int) (uu : Wd) (sv : Value), (-2147483648 ≤ zz ∧ zz < 2147483648) ∧ (some (iI zz) = some (iI ((pmN (x % ((P i : Nat) : Int)).toNat (P i) (P i - 2) : Nat) : Int)) ∧ CS τ ad uu (bs) (ss) (pb) (P) (Q) (ct) ∧ KO τ w uu) ∧ w' = wset uu o (true, eO 9 [jJ zz, sv]))) {t2 ans : Int} (h2 : (¬ (0 ≤ vi ∧ vi ≤ 2) ∧ t2 = 1 ∧ ans = 0 ∨ (0 ≤ vi ∧ vi ≤ 2) ∧ ¬ ((-999) ≤ x ∧ x ≤ 999) ∧ t2 = 2 ∧ ans = 0 ∨ (0 ≤ vi ∧ vi ≤ 2) ∧ ((-999) ≤ x ∧ x ≤ 999) ∧ t2 = 0 ∧ ∃ p k, SpR (sp vi.toNat) p k ∧ ((∃ j : Nat, 1 ≤ j ∧ j < p ∧ x % (p : Int) * (j : Int) % (p : Int) = 1 ∧ (∀ i : Nat, 1 ≤ i → i < j → x % (p : Int) * (i : Int) % (p : Int) ≠ 1) ∧ ans = j) ∨ (∀ i : Nat, 1 ≤ i → i < p → x % (p : Int) * (i : Int) % (p : Int) ≠ 1) ∧ ans = 0))) : EV r' w' o ans t2 := by
  rcases h with ⟨hb, rfl, h1, h3⟩ | ⟨hg1, hb, rfl, h1, h3⟩ | ⟨hg1, hg2, rfl, i, rfl, zz, uu, sv, hz, hp, rfl⟩
  · exact ev_no hO h3 (by omega) (by omega)
  · exact ev_no hO h3 (by omega) (by omega)
  · rcases h2 with ⟨c1, -⟩ | ⟨-, c1, -⟩ | ⟨c1, c2, c3, p, k, e3, e4⟩
    · omega
    · omega
    · obtain ⟨e1, -, -⟩ := hp
      obtain ⟨-, -, q3⟩ := hr.1 i (by omega)
      simp only [Int.toNat_natCast] at e3
      obtain ⟨e5, e6⟩ := SpR_u e3 q3
      subst e5
      have h9 := (SPb_p q3.1.1).2.1
      have hl := pmN_lt (a := (x % ((P i : Nat) : Int)).toNat) (p := P i) (by omega) (P i - 2)
      have e7 := inv_eq q3.1.1 e4
      rw [e7] at e1
      exact ev_go hz e1 (by rw [← e7]; omega) c3
