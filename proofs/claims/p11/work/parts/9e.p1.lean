/-! the model's pairs stay good -/
def PX (pm le ri cm : Nat → Int) (t2 : Int) (pm' le' ri' cm' : Nat → Int) (t : Nat) : Prop := (0 ≤ t2 ∧ t2 ≤ 2) ∧ HPp pm' le' ri' ∧ (∀ i, i < 5 → 0 ≤ cm' i ∧ cm' i ≤ ((t + 1 : Nat) : Int)) ∧ cm' 4 = cm 4
theorem px_no {pm le ri cm pm' le' ri' cm' : Nat → Int} {t2 : Int} {t : Nat} (hP : HPp pm le ri) (hc : ∀ i, i < 5 → 0 ≤ cm i ∧ cm i ≤ (t : Int)) (h : 0 ≤ t2 ∧ t2 ≤ 2) (e1 : pm' = pm) (e2 : le' = le) (e3 : ri' = ri) (e4 : cm' = cm) : PX pm le ri cm t2 pm' le' ri' cm' t := by
  subst e1 e2 e3 e4
  exact ⟨h, hP, cm_eq5 hc, rfl⟩
theorem px_can {pm le ri cm pm' le' ri' cm' : Nat → Int} {t2 : Int} {t : Nat} (hP : HPp pm le ri) (hc : ∀ i, i < 5 → 0 ≤ cm i ∧ cm i ≤ (t : Int)) (h : t2 = 0) (e1 : pm' = pm) (e2 : le' = le) (e3 : ri' = ri) (e4 : cm' = iup cm 3 (cm 3 + 1)) : PX pm le ri cm t2 pm' le' ri' cm' t := by
  subst e1 e2 e3 e4
  exact ⟨by omega, hP, cm_up hc 3, by rw [iup_n (by omega)]⟩
theorem px_up {pm le ri cm pm' le' ri' cm' : Nat → Int} {t2 : Int} {t : Nat} (hP : HPp pm le ri) (hc : ∀ i, i < 5 → 0 ≤ cm i ∧ cm i ≤ (t : Int)) (h : t2 = 0) {i : Nat} {b x y : Int} (hb : GB b) (hx : ¬ LGN ≤ aB x) (hy : ¬ LGN ≤ aB y) (e1 : pm' = iup pm i b) (e2 : le' = iup le i x) (e3 : ri' = iup ri i y) (e4 : cm' = iup cm 1 (cm 1 + 1)) : PX pm le ri cm t2 pm' le' ri' cm' t := by
  subst e1 e2 e3 e4
  refine ⟨by omega, fun j hj => ?_, cm_up hc 1, by rw [iup_n (by omega)]⟩
  by_cases q : j = i
  · subst q; rw [iup_s, iup_s, iup_s]; exact ⟨hb, hx, hy⟩
  · rw [iup_n q, iup_n q, iup_n q]; exact hP j hj
theorem lg_sm {x : Int} (h : -2147483648 ≤ x ∧ x ≤ 2147483648) : ¬ LGN ≤ aB x := by
  unfold aB
  split <;> (show ¬ (1208925819614629174706176 : Int) ≤ _; omega)
theorem aB_dv {x d y : Int} (h : x * d = y) (hd : d ≠ 0) (hy : ¬ LGN ≤ aB y) : ¬ LGN ≤ aB x := by
  have h1 := aB_mul (y := x) (d := d)
  rw [h] at h1
  have h2 := aB_pos hd
  have h3 : 0 ≤ aB x := by unfold aB; split <;> omega
  have h4 : aB x * 1 ≤ aB x * aB d := Int.mul_le_mul_of_nonneg_left (by omega) h3
  omega
theorem bp_put {pm le ri cm : Nat → Int} {t : Nat} (hP : HPp pm le ri) (hc : ∀ i, i < 5 → 0 ≤ cm i ∧ cm i ≤ (t : Int)) {t2 ans : Int} {pm' le' ri' cm' : Nat → Int} {v b x y : Int}  (h : ¬ (0 ≤ v ∧ v ≤ 2) ∧ t2 = 1 ∧ ans = 0 ∧ pm' = pm ∧ le' = le ∧ ri' = ri ∧ cm' = cm ∨ (0 ≤ v ∧ v ≤ 2) ∧ ¬ (GB b ∧ (-1000 ≤ x ∧ x ≤ 1000) ∧ (-1000 ≤ y ∧ y ≤ 1000)) ∧ t2 = 2 ∧ ans = 0 ∧ pm' = pm ∧ le' = le ∧ ri' = ri ∧ cm' = cm ∨ (0 ≤ v ∧ v ≤ 2) ∧ (GB b ∧ (-1000 ≤ x ∧ x ≤ 1000) ∧ (-1000 ≤ y ∧ y ≤ 1000)) ∧ t2 = 0 ∧ ans = bI (¬ (pm v.toNat = b ∧ le v.toNat = x ∧ ri v.toNat = y)) ∧ pm' = iup pm v.toNat b ∧ le' = iup le v.toNat x ∧ ri' = iup ri v.toNat y ∧ cm' = iup cm 1 (cm 1 + 1)) : PX pm le ri cm t2 pm' le' ri' cm' t := by
  rcases h with ⟨-, h, -, a, b, c, d⟩ | ⟨-, -, h, -, a, b, c, d⟩ | ⟨-, ⟨g1, g2, g3⟩, h, -, a, b, c, d⟩
  · exact px_no hP hc (by omega) a b c d
  · exact px_no hP hc (by omega) a b c d
  · exact px_up hP hc h g1 (lg_sm (by omega)) (lg_sm (by omega)) a b c d
theorem bp_mirror {pm le ri cm : Nat → Int} {t : Nat} (hP : HPp pm le ri) (hc : ∀ i, i < 5 → 0 ≤ cm i ∧ cm i ≤ (t : Int)) {t2 ans : Int} {pm' le' ri' cm' : Nat → Int} {v z : Int}  (h : ¬ (0 ≤ v ∧ v ≤ 2) ∧ t2 = 1 ∧ ans = 0 ∧ pm' = pm ∧ le' = le ∧ ri' = ri ∧ cm' = cm ∨ (0 ≤ v ∧ v ≤ 2) ∧ t2 = 0 ∧ ∃ x : Int, (z = 1 ∧ x = - le v.toNat ∨ z = 0 ∧ x = le v.toNat) ∧ ans = bI (¬ (pm v.toNat = (pm v.toNat) ∧ le v.toNat = x ∧ ri v.toNat = (- ri v.toNat))) ∧ pm' = iup pm v.toNat (pm v.toNat) ∧ le' = iup le v.toNat x ∧ ri' = iup ri v.toNat (- ri v.toNat) ∧ cm' = iup cm 1 (cm 1 + 1)) : PX pm le ri cm t2 pm' le' ri' cm' t := by
  rcases h with ⟨-, h, -, a, b, c, d⟩ | ⟨g, h, x, hx, -, a, b, c, d⟩
  · exact px_no hP hc (by omega) a b c d
  · obtain ⟨h1, h2, h3⟩ := hP v.toNat (by omega)
    refine px_up hP hc h h1 ?_ (by rw [aB_neg]; exact h3) a b c d
    rcases hx with ⟨-, q⟩ | ⟨-, q⟩
    · rw [q, aB_neg]; exact h2
    · rw [q]; exact h2
theorem bp_least {pm le ri cm : Nat → Int} {t : Nat} (hP : HPp pm le ri) (hc : ∀ i, i < 5 → 0 ≤ cm i ∧ cm i ≤ (t : Int)) {t2 ans : Int} {pm' le' ri' cm' : Nat → Int} {v b : Int}  (h : ¬ (0 ≤ v ∧ v ≤ 2) ∧ t2 = 1 ∧ ans = 0 ∧ pm' = pm ∧ le' = le ∧ ri' = ri ∧ cm' = cm ∨ (0 ≤ v ∧ v ≤ 2) ∧ ¬ GB b ∧ t2 = 2 ∧ ans = 0 ∧ pm' = pm ∧ le' = le ∧ ri' = ri ∧ cm' = cm ∨ (0 ≤ v ∧ v ≤ 2) ∧ GB b ∧ t2 = 0 ∧ ∃ r, RT b r ∧ ans = bI (¬ (pm v.toNat = b ∧ le v.toNat = (leaP b r) ∧ ri v.toNat = (leaQ b r))) ∧ pm' = iup pm v.toNat b ∧ le' = iup le v.toNat (leaP b r) ∧ ri' = iup ri v.toNat (leaQ b r) ∧ cm' = iup cm 1 (cm 1 + 1)) : PX pm le ri cm t2 pm' le' ri' cm' t := by
  rcases h with ⟨-, h, -, a, b, c, d⟩ | ⟨-, -, h, -, a, b, c, d⟩ | ⟨-, g, h, r, hr, -, a, b, c, d⟩
  · exact px_no hP hc (by omega) a b c d
  · exact px_no hP hc (by omega) a b c d
  · obtain ⟨l1, l2, l3, l4, -⟩ := lea_ok g hr
    exact px_up hP hc h g (lg_sm (by omega)) (lg_sm (by omega)) a b c d
theorem bp_take {pm le ri cm : Nat → Int} {t : Nat} (hP : HPp pm le ri) (hc : ∀ i, i < 5 → 0 ≤ cm i ∧ cm i ≤ (t : Int)) {t2 ans : Int} {pm' le' ri' cm' : Nat → Int} {v into : Int} {ba st : Nat → Int} (hB : ∀ i, i < 3 → GB (ba i)) (h : ¬ ((0 ≤ v ∧ v ≤ 2) ∧ (0 ≤ into ∧ into ≤ 2)) ∧ t2 = 1 ∧ ans = 0 ∧ pm' = pm ∧ le' = le ∧ ri' = ri ∧ cm' = cm ∨ ((0 ≤ v ∧ v ≤ 2) ∧ (0 ≤ into ∧ into ≤ 2)) ∧ t2 = 0 ∧ ∃ r, RT (ba v.toNat) r ∧ ((LGN ≤ aB (pq (ba v.toNat) r 1 r (st v.toNat).toNat).1 ∨ LGN ≤ aB (pq (ba v.toNat) r 0 1 (st v.toNat).toNat).1) ∧ ans = -9 ∧ pm' = pm ∧ le' = le ∧ ri' = ri ∧ cm' = iup cm 3 (cm 3 + 1) ∨ ¬ (LGN ≤ aB (pq (ba v.toNat) r 1 r (st v.toNat).toNat).1 ∨ LGN ≤ aB (pq (ba v.toNat) r 0 1 (st v.toNat).toNat).1) ∧ ans = bI (¬ (pm into.toNat = (ba v.toNat) ∧ le into.toNat = (pq (ba v.toNat) r 1 r (st v.toNat).toNat).1 ∧ ri into.toNat = (pq (ba v.toNat) r 0 1 (st v.toNat).toNat).1)) ∧ pm' = iup pm into.toNat (ba v.toNat) ∧ le' = iup le into.toNat (pq (ba v.toNat) r 1 r (st v.toNat).toNat).1 ∧ ri' = iup ri into.toNat (pq (ba v.toNat) r 0 1 (st v.toNat).toNat).1 ∧ cm' = iup cm 1 (cm 1 + 1))) : PX pm le ri cm t2 pm' le' ri' cm' t := by
  rcases h with ⟨-, h, -, a, b, c, d⟩ | ⟨g, h, r, hr, ⟨-, -, a, b, c, d⟩ | ⟨q, -, a, b, c, d⟩⟩
  · exact px_no hP hc (by omega) a b c d
  · exact px_can hP hc h a b c d
  · exact px_up hP hc h (hB v.toNat (by omega)) (fun z => q (Or.inl z)) (fun z => q (Or.inr z)) a b c d
theorem bp_compose {pm le ri cm : Nat → Int} {t : Nat} (hP : HPp pm le ri) (hc : ∀ i, i < 5 → 0 ≤ cm i ∧ cm i ≤ (t : Int)) {t2 ans : Int} {pm' le' ri' cm' : Nat → Int} {v o into : Int}  (h : ¬ ((0 ≤ v ∧ v ≤ 2) ∧ (0 ≤ o ∧ o ≤ 2) ∧ (0 ≤ into ∧ into ≤ 2)) ∧ t2 = 1 ∧ ans = 0 ∧ pm' = pm ∧ le' = le ∧ ri' = ri ∧ cm' = cm ∨ ((0 ≤ v ∧ v ≤ 2) ∧ (0 ≤ o ∧ o ≤ 2) ∧ (0 ≤ into ∧ into ≤ 2)) ∧ t2 = 0 ∧ pm v.toNat ≠ pm o.toNat ∧ ans = -9 ∧ pm' = pm ∧ le' = le ∧ ri' = ri ∧ cm' = iup cm 3 (cm 3 + 1) ∨ ((0 ≤ v ∧ v ≤ 2) ∧ (0 ≤ o ∧ o ≤ 2) ∧ (0 ≤ into ∧ into ≤ 2)) ∧ t2 = 0 ∧ pm v.toNat = pm o.toNat ∧ ((LGN ≤ aB (le v.toNat * le o.toNat + pm v.toNat * (ri v.toNat * ri o.toNat)) ∨ LGN ≤ aB (le v.toNat * ri o.toNat + ri v.toNat * le o.toNat)) ∧ ans = -9 ∧ pm' = pm ∧ le' = le ∧ ri' = ri ∧ cm' = iup cm 3 (cm 3 + 1) ∨ ¬ (LGN ≤ aB (le v.toNat * le o.toNat + pm v.toNat * (ri v.toNat * ri o.toNat)) ∨ LGN ≤ aB (le v.toNat * ri o.toNat + ri v.toNat * le o.toNat)) ∧ ans = bI (¬ (pm into.toNat = (pm v.toNat) ∧ le into.toNat = (le v.toNat * le o.toNat + pm v.toNat * (ri v.toNat * ri o.toNat)) ∧ ri into.toNat = (le v.toNat * ri o.toNat + ri v.toNat * le o.toNat))) ∧ pm' = iup pm into.toNat (pm v.toNat) ∧ le' = iup le into.toNat (le v.toNat * le o.toNat + pm v.toNat * (ri v.toNat * ri o.toNat)) ∧ ri' = iup ri into.toNat (le v.toNat * ri o.toNat + ri v.toNat * le o.toNat) ∧ cm' = iup cm 1 (cm 1 + 1))) : PX pm le ri cm t2 pm' le' ri' cm' t := by
  rcases h with ⟨-, h, -, a, b, c, d⟩ | ⟨-, h, -, -, a, b, c, d⟩ | ⟨g, h, -, ⟨-, -, a, b, c, d⟩ | ⟨q, -, a, b, c, d⟩⟩
  · exact px_no hP hc (by omega) a b c d
  · exact px_can hP hc h a b c d
  · exact px_can hP hc h a b c d
  · exact px_up hP hc h (hP v.toNat (by omega)).1 (fun z => q (Or.inl z)) (fun z => q (Or.inr z)) a b c d
theorem bp_power {pm le ri cm : Nat → Int} {t : Nat} (hP : HPp pm le ri) (hc : ∀ i, i < 5 → 0 ≤ cm i ∧ cm i ≤ (t : Int)) {t2 ans : Int} {pm' le' ri' cm' : Nat → Int} {v e : Int}  (h : ¬ (0 ≤ v ∧ v ≤ 2) ∧ t2 = 1 ∧ ans = 0 ∧ pm' = pm ∧ le' = le ∧ ri' = ri ∧ cm' = cm ∨ (0 ≤ v ∧ v ≤ 2) ∧ ¬ (0 ≤ e ∧ e ≤ 5) ∧ t2 = 2 ∧ ans = 0 ∧ pm' = pm ∧ le' = le ∧ ri' = ri ∧ cm' = cm ∨ (0 ≤ v ∧ v ≤ 2) ∧ (0 ≤ e ∧ e ≤ 5) ∧ t2 = 0 ∧ ((LGN ≤ aB (pw2 (pm v.toNat) (le v.toNat) (ri v.toNat) e.toNat).1 ∨ LGN ≤ aB (pw2 (pm v.toNat) (le v.toNat) (ri v.toNat) e.toNat).2) ∧ ans = -9 ∧ pm' = pm ∧ le' = le ∧ ri' = ri ∧ cm' = iup cm 3 (cm 3 + 1) ∨ ¬ (LGN ≤ aB (pw2 (pm v.toNat) (le v.toNat) (ri v.toNat) e.toNat).1 ∨ LGN ≤ aB (pw2 (pm v.toNat) (le v.toNat) (ri v.toNat) e.toNat).2) ∧ ans = bI (¬ (pm v.toNat = (pm v.toNat) ∧ le v.toNat = (pw2 (pm v.toNat) (le v.toNat) (ri v.toNat) e.toNat).1 ∧ ri v.toNat = (pw2 (pm v.toNat) (le v.toNat) (ri v.toNat) e.toNat).2)) ∧ pm' = iup pm v.toNat (pm v.toNat) ∧ le' = iup le v.toNat (pw2 (pm v.toNat) (le v.toNat) (ri v.toNat) e.toNat).1 ∧ ri' = iup ri v.toNat (pw2 (pm v.toNat) (le v.toNat) (ri v.toNat) e.toNat).2 ∧ cm' = iup cm 1 (cm 1 + 1))) : PX pm le ri cm t2 pm' le' ri' cm' t := by
  rcases h with ⟨-, h, -, a, b, c, d⟩ | ⟨-, -, h, -, a, b, c, d⟩ | ⟨g, -, h, ⟨-, -, a, b, c, d⟩ | ⟨q, -, a, b, c, d⟩⟩
  · exact px_no hP hc (by omega) a b c d
  · exact px_no hP hc (by omega) a b c d
  · exact px_can hP hc h a b c d
  · exact px_up hP hc h (hP v.toNat (by omega)).1 (fun z => q (Or.inl z)) (fun z => q (Or.inr z)) a b c d
theorem bp_divideBy {pm le ri cm : Nat → Int} {t : Nat} (hP : HPp pm le ri) (hc : ∀ i, i < 5 → 0 ≤ cm i ∧ cm i ≤ (t : Int)) {t2 ans : Int} {pm' le' ri' cm' : Nat → Int} {v d : Int}  (h : ¬ (0 ≤ v ∧ v ≤ 2) ∧ t2 = 1 ∧ ans = 0 ∧ pm' = pm ∧ le' = le ∧ ri' = ri ∧ cm' = cm ∨ (0 ≤ v ∧ v ≤ 2) ∧ ¬ (-99 ≤ d ∧ d ≤ 99) ∧ t2 = 2 ∧ ans = 0 ∧ pm' = pm ∧ le' = le ∧ ri' = ri ∧ cm' = cm ∨ (0 ≤ v ∧ v ≤ 2) ∧ (-99 ≤ d ∧ d ≤ 99) ∧ t2 = 0 ∧ ((d = 0 ∨ aB (le v.toNat) % aB d ≠ 0 ∨ aB (ri v.toNat) % aB d ≠ 0) ∧ ans = -9 ∧ pm' = pm ∧ le' = le ∧ ri' = ri ∧ cm' = iup cm 3 (cm 3 + 1) ∨ ¬ (d = 0 ∨ aB (le v.toNat) % aB d ≠ 0 ∨ aB (ri v.toNat) % aB d ≠ 0) ∧ ∃ x y : Int, x * d = le v.toNat ∧ y * d = ri v.toNat ∧ ans = bI (¬ (pm v.toNat = (pm v.toNat) ∧ le v.toNat = x ∧ ri v.toNat = y)) ∧ pm' = iup pm v.toNat (pm v.toNat) ∧ le' = iup le v.toNat x ∧ ri' = iup ri v.toNat y ∧ cm' = iup cm 1 (cm 1 + 1))) : PX pm le ri cm t2 pm' le' ri' cm' t := by
  rcases h with ⟨-, h, -, a, b, c, d⟩ | ⟨-, -, h, -, a, b, c, d⟩ | ⟨g, -, h, ⟨-, -, a, b, c, d⟩ | ⟨q, x, y, hx, hy, -, a, b, c, d⟩⟩
  · exact px_no hP hc (by omega) a b c d
  · exact px_no hP hc (by omega) a b c d
  · exact px_can hP hc h a b c d
  · obtain ⟨h1, h2, h3⟩ := hP v.toNat (by omega)
    have hd : ¬ (_ : Int) = 0 := fun z => q (Or.inl z)
    exact px_up hP hc h h1 (aB_dv hx hd h2) (aB_dv hy hd h3) a b c d
theorem bp_pairCopy {pm le ri cm : Nat → Int} {t : Nat} (hP : HPp pm le ri) (hc : ∀ i, i < 5 → 0 ≤ cm i ∧ cm i ≤ (t : Int)) {t2 ans : Int} {pm' le' ri' cm' : Nat → Int} {v into : Int}  (h : ¬ ((0 ≤ v ∧ v ≤ 2) ∧ (0 ≤ into ∧ into ≤ 2)) ∧ t2 = 1 ∧ ans = 0 ∧ pm' = pm ∧ le' = le ∧ ri' = ri ∧ cm' = cm ∨ ((0 ≤ v ∧ v ≤ 2) ∧ (0 ≤ into ∧ into ≤ 2)) ∧ t2 = 0 ∧ ans = bI (¬ (pm into.toNat = (pm v.toNat) ∧ le into.toNat = (le v.toNat) ∧ ri into.toNat = (ri v.toNat))) ∧ pm' = iup pm into.toNat (pm v.toNat) ∧ le' = iup le into.toNat (le v.toNat) ∧ ri' = iup ri into.toNat (ri v.toNat) ∧ cm' = iup cm 1 (cm 1 + 1)) : PX pm le ri cm t2 pm' le' ri' cm' t := by
  rcases h with ⟨-, h, -, a, b, c, d⟩ | ⟨g, h, -, a, b, c, d⟩
  · exact px_no hP hc (by omega) a b c d
  · obtain ⟨h1, h2, h3⟩ := hP v.toNat (by omega)
    exact px_up hP hc h h1 h2 h3 a b c d
