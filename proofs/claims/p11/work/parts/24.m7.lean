theorem g_eqw {E X nL pc L st} {w w' : Wd} {k n : Nat} (h : w = w') (kk : G E X nL pc L st w' k n) : G E X nL pc L st w k n := by subst h; exact kk
def row5 (a : Int) : Nat → Int := iup (iup (iup (iup (iup (fun _ => 0) 0 1) 1 a) 2 0) 3 0) 4 0
theorem row5_d {a : Int} (h : 0 ≤ a ∧ a < 1073741824) : DG (row5 a) 5 := by
  intro i h1 h2
  have : i = 1 ∨ i = 2 ∨ i = 3 ∨ i = 4 := by omega
  rcases this with rfl | rfl | rfl | rfl
  · exact h
  · exact (⟨by omega, by omega⟩ : (0 : Int) ≤ 0 ∧ (0 : Int) < 1073741824)
  · exact (⟨by omega, by omega⟩ : (0 : Int) ≤ 0 ∧ (0 : Int) < 1073741824)
  · exact (⟨by omega, by omega⟩ : (0 : Int) ≤ 0 ∧ (0 : Int) < 1073741824)
theorem row5_m {a : Int} : mg (row5 a) 5 = a := by
  show 0 + a * B30 ^ 0 + 0 * B30 ^ 1 + 0 * B30 ^ 2 + 0 * B30 ^ 3 = a
  rw [Int.pow_zero]; omega
/-- the rows of a walk on the way: TOP and BOTTOM, each behind that of the step ahead -/
def W4 (w u : Wd) (p1 p0 q1 q0 : Int) : Prop := u.1 = w.1 + 5 ∧ Fr w u ∧ ∃ (R : Nat → Option Nat) (i0 i1 i2 i3 : Nat) (f0 f1 f2 f3 : Nat → Int), u.2 w.1 = some (true, eR 2 4 R) ∧ (R 0 = some i0 ∧ R 1 = some i1 ∧ R 2 = some i2 ∧ R 3 = some i3) ∧ (i0 + i1 = 2 * w.1 + 3 ∧ w.1 < i0 ∧ i0 ≤ w.1 + 2 ∧ i2 + i3 = 2 * w.1 + 7 ∧ w.1 + 2 < i2 ∧ i2 ≤ w.1 + 4) ∧
  (u.2 i0 = some (true, eI 5 f0) ∧ u.2 i1 = some (true, eI 5 f1) ∧ u.2 i2 = some (true, eI 5 f2) ∧ u.2 i3 = some (true, eI 5 f3)) ∧ (DG f0 5 ∧ DG f1 5 ∧ DG f2 5 ∧ DG f3 5) ∧ (mg f0 5 = p0 ∧ mg f1 5 = p1 ∧ mg f2 5 = q0 ∧ mg f3 5 = q1)
def W4s (w u : Wd) (wh : Nat) (P : Wd → Prop) (a x1 x0 : Int) : Prop := ∃ (R : Nat → Option Nat) (x y : Nat) (f g : Nat → Int), u.2 w.1 = some (true, eR 2 4 R) ∧ R wh = some x ∧ R (wh + 1) = some y ∧ x ≠ y ∧ w.1 < x ∧ w.1 < y ∧ u.2 x = some (true, eI 5 f) ∧ u.2 y = some (true, eI 5 g) ∧ DG f 5 ∧ DG g 5 ∧ mg f 5 = x0 ∧ mg g 5 = x1 ∧ ∀ h : Nat → Int, DG h 5 → mg h 5 = a * x1 + x0 → P (wset (wset u x (true, eI 5 h)) w.1 (true, eR 2 4 (rup (rup R wh (some y)) (wh + 1) (some x))))
theorem W4.s0 {w u : Wd} {p1 p0 q1 q0 a : Int} (h : W4 w u p1 p0 q1 q0) : W4s w u 0 (fun v => W4 w v (a * p1 + p0) p1 q1 q0) a p1 p0 := by
  obtain ⟨h1, h2, R, i0, i1, i2, i3, f0, f1, f2, f3, hR, ⟨r0, r1, r2, r3⟩, hi, ⟨e0, e1, e2, e3⟩, ⟨d0, d1, d2, d3⟩, g0, g1, g2, g3⟩ := h
  refine ⟨R, i0, i1, f0, f1, hR, r0, r1, by omega, by omega, by omega, e0, e1, d0, d1, g0, g1, fun h dh gh => ?_⟩
  refine ⟨h1, (h2.set (by omega) _).set (Nat.le_refl _) _, _, i1, i0, i2, i3, f1, h, f2, f3, wset_s, ⟨?_, ?_, ?_, ?_⟩, by omega, ⟨?_, ?_, ?_, ?_⟩, ⟨d1, dh, d2, d3⟩, g1, gh, g2, g3⟩
  · rw [rup_n (by omega), rup_s]
  · rw [rup_s]
  · rw [rup_n (by omega), rup_n (by omega)]; exact r2
  · rw [rup_n (by omega), rup_n (by omega)]; exact r3
  · rw [wset_n (by omega), wset_n (by omega)]; exact e1
  · rw [wset_n (by omega), wset_s]
  · rw [wset_n (by omega), wset_n (by omega)]; exact e2
  · rw [wset_n (by omega), wset_n (by omega)]; exact e3
theorem W4.s2 {w u : Wd} {p1 p0 q1 q0 a : Int} (h : W4 w u p1 p0 q1 q0) : W4s w u 2 (fun v => W4 w v p1 p0 (a * q1 + q0) q1) a q1 q0 := by
  obtain ⟨h1, h2, R, i0, i1, i2, i3, f0, f1, f2, f3, hR, ⟨r0, r1, r2, r3⟩, hi, ⟨e0, e1, e2, e3⟩, ⟨d0, d1, d2, d3⟩, g0, g1, g2, g3⟩ := h
  refine ⟨R, i2, i3, f2, f3, hR, r2, r3, by omega, by omega, by omega, e2, e3, d2, d3, g2, g3, fun h dh gh => ?_⟩
  refine ⟨h1, (h2.set (by omega) _).set (Nat.le_refl _) _, _, i0, i1, i3, i2, f0, f1, f3, h, wset_s, ⟨?_, ?_, ?_, ?_⟩, by omega, ⟨?_, ?_, ?_, ?_⟩, ⟨d0, d1, d3, dh⟩, g0, g1, g3, gh⟩
  · rw [rup_n (by omega), rup_n (by omega)]; exact r0
  · rw [rup_n (by omega), rup_n (by omega)]; exact r1
  · rw [rup_n (by omega), rup_s]
  · rw [rup_s]
  · rw [wset_n (by omega), wset_n (by omega)]; exact e0
  · rw [wset_n (by omega), wset_n (by omega)]; exact e1
  · rw [wset_n (by omega), wset_n (by omega)]; exact e3
  · rw [wset_n (by omega), wset_s]
theorem RowAt.keep {v v' : Wd} {a cap : Nat} {z : Int} (h : RowAt v a z cap) (e : v'.2 a = v.2 a) : RowAt v' a z cap := by
  obtain ⟨m, f, h1, h2, h3⟩ := h
  exact ⟨m, f, by rw [e]; exact h1, h2, h3⟩
theorem wseg {u v : Wd} {e e' : WdE} {a : Nat} (h1 : a ≠ u.1) (h2 : a < v.1) : (wset (wpush v e) u.1 e').2 a = v.2 a := by
  rw [wset_n h1, wpush_n (by omega)]
theorem p19 : (19 : Int) ^ 27 < B30 ^ 4 := by
  have h1 : (19 : Int) ^ 27 = ((19 ^ 27 : Nat) : Int) := by simp
  have h2 : B30 ^ 4 = ((1073741824 ^ 4 : Nat) : Int) := by show (1073741824 : Int) ^ 4 = _; simp
  rw [h1, h2]
  exact Int.ofNat_lt.mpr (by decide)
theorem p19le {j : Nat} (h : j ≤ 26) : (19 : Int) ^ (j + 1) ≤ 19 ^ 27 := by
  have e : 27 = (j + 1) + (26 - j) := by omega
  rw [e, Int.pow_add _ (j + 1) (26 - j)]
  have h1 : (1 : Int) ≤ 19 ^ (26 - j) := Int.pow_pos (by decide)
  have h2 := Int.mul_le_mul_of_nonneg_left h1 (Int.le_of_lt (Int.pow_pos (by decide) : (0 : Int) < 19 ^ (j + 1)))
  rw [Int.mul_one] at h2
  exact h2
set_option maxHeartbeats 4000000 in
set_option maxRecDepth 100000 in
theorem c_X8_walked (l : Launch) {E : GE} {w : Wd} {b r : Int} {K : Nat} (hb : GB b) (hr : RT b r) (hK : K ≤ 26) : Sp E l yX8_walked cX8_walked 13 (some (.array (.array .int))) 1 (10) (48) [iI b, iI (K : Int)] w (fun r1 w' => ∃ q : Nat, r1 = some (.ref q) ∧ R4 w.1 w' q (pq b r 1 r K).1 (pq b r 0 1 K).1 (pq b r 1 r K).2 (pq b r 0 1 K).2 ∧ Fr w w' ∧ w.1 ≤ q) := by
  refine sp_intro [some (iI b), some (iI (K : Int)), none, none, none, none, none, none, none, none, none, none, none] rfl (Nat.le_of_ble_eq_true rfl) pn_X8 ?_
  intro X C hRm hl hnm hQ
  obtain ⟨hRf, hRl, hRc, hRs⟩ := hRm
  refine g_wf (fun hwf => ?_)
  have hb1 := hb.1
  have hb2 := hb.2.1
  have hr9 := RT_le hb hr
  have hr0 : 1 ≤ r ∧ r ≤ 9 := hr9
  refine g_iload_n C dX8_walked_0 rfl ?_
  refine g_callS C (c_X8_root _ (b := b) (by omega)) ml_RX8_130 sm_yX8_root in_RX8 co_yX8_root hd_X8_root rfl ⟨by omega, by omega⟩ rfl (Nat.le_of_ble_eq_true rfl) ⟨by omega, by omega⟩ dX8_walked_1 (fun v1 w1 hp1 => ?_)
  obtain ⟨⟨r2, rfl, q1, q2, q3⟩, hw1⟩ := hp1
  subst w1
  have er := RT_uniq hr ⟨q1, q2, q3⟩
  subst er
  refine g_istore_n C dX8_walked_4 (by decide) rfl ?_
  refine g_iconst C dX8_walked_5 ?_
  refine g_istore_n C dX8_walked_6 (by decide) rfl ?_
  refine g_iconst C dX8_walked_7 ?_
  refine g_istore C dX8_walked_8 (by decide) rfl ?_
  refine g_iload_n C dX8_walked_10 rfl ?_
  refine g_istore C dX8_walked_11 (by decide) rfl ?_
  have J121 : ∀ (u : Wd) (R : Nat → Option Nat), u.1 = w.1 + 5 → Fr w u → u.2 w.1 = some (true, eR 2 4 R) → u.2 (w.1 + 1) = some (true, eI 5 (row5 1)) → R 0 = some (w.1 + 1) → u.2 (w.1 + 2) = some (true, eI 5 (row5 r)) → R 1 = some (w.1 + 2) → u.2 (w.1 + 3) = some (true, eI 5 (row5 0)) → R 2 = some (w.1 + 3) → u.2 (w.1 + 4) = some (true, eI 5 (row5 1)) → R 3 = some (w.1 + 4) → G E X 13 121 [some (iI b), some (iI (K : Int)), some (iI r), some (iI 0), some (iI 1), some (iI r), none, none, none, none, none, none, none] [.ref w.1] u 5 24 := by
    intro u R hu hfr hR b0 c0 b1 c1 b2 c2 b3 c3
    refine g_astore C dX8_walked_121 (by decide) rfl ?_
    refine g_iconst C dX8_walked_123 ?_
    refine g_istore C dX8_walked_124 (by decide) rfl ?_
    have w0 : W4 w u r 1 1 0 := ⟨hu, hfr, R, w.1 + 1, w.1 + 2, w.1 + 3, w.1 + 4, row5 1, row5 r, row5 0, row5 1, hR, ⟨c0, c1, c2, c3⟩, by omega, ⟨b0, b1, b2, b3⟩, ⟨row5_d (by omega), row5_d (by omega), row5_d (by omega), row5_d (by omega)⟩, row5_m, row5_m, row5_m, row5_m⟩
    clear c0 c1 c2 c3 b0 b1 b2 b3 hR hu hfr
    refine g_loop (σ := Nat × Wd) (fun q => q.1 ≤ K ∧ W4 w q.2 (pq b r 1 r q.1).1 (pq b r 1 r q.1).2 (pq b r 0 1 q.1).1 (pq b r 0 1 q.1).2) (fun q => G E X 13 126 [some (iI b), some (iI (K : Int)), some (iI r), some (iI (cf b r q.1).1), some (iI (cf b r q.1).2.1), some (iI (cf b r q.1).2.2), some (.ref w.1), some (iI (q.1 : Int)), none, none, none, none, none] [] q.2 5 24) (fun q => K - q.1) ?_ (0, u) ⟨by dsimp only; omega, w0⟩
    clear w0 u R
    rintro ⟨j, u⟩ hq ih
    obtain ⟨hj, hW⟩ := hq
    dsimp only at hj hW ⊢
    refine g_iload C dX8_walked_126 rfl ?_
    refine g_iload_n C dX8_walked_128 rfl ?_
    refine g_icmp_ge (tgt := 271) C dX8_walked_129 (by decide) (by omega) (by omega) (fun h129 => ?_) (fun h129 => ?_)
    · have ejK : j = K := by omega
      subst ejK
      obtain ⟨hu, hfr, R, i0, i1, i2, i3, f0, f1, f2, f3, hR, ⟨r0, r1, r2, r3⟩, hi, ⟨e0, e1, e2, e3⟩, ⟨d0, d1, d2, d3⟩, g0, g1, g2, g3⟩ := hW
      have hxw : w.1 < u.1 := by omega
      have J319 : ∀ (v : Wd) (S : Nat → Option Nat), v.1 = u.1 + 5 → Fr u v → v.2 u.1 = some (true, eR 2 4 S) → S 0 = some (u.1 + 1) → RowAt v (u.1 + 1) (pq b r 1 r j).1 5 → S 1 = some (u.1 + 2) → RowAt v (u.1 + 2) (pq b r 0 1 j).1 5 → S 2 = some (u.1 + 3) → RowAt v (u.1 + 3) (pq b r 1 r j).2 5 → S 3 = some (u.1 + 4) → RowAt v (u.1 + 4) (pq b r 0 1 j).2 5 → G E X 13 319 [some (iI b), some (iI (j : Int)), some (iI r), some (iI (cf b r j).1), some (iI (cf b r j).2.1), some (iI (cf b r j).2.2), some (.ref w.1), some (iI (j : Int)), none, none, none, none, none] [.ref u.1] v 10 48 := by
        intro v S hv hfv hS c0 b0 c1 b1 c2 b2 c3 b3
        exact g_areturn C (Or.inr ⟨_, rfl⟩) hQ (Or.inr ⟨_, rfl⟩) dX8_walked_319 (by omega) (by omega) ⟨u.1, rfl, ⟨S, u.1 + 1, u.1 + 2, u.1 + 3, u.1 + 4, hS, c0, c1, c2, c3, b0, b1, b2, b3, by omega, by omega, by omega, by omega⟩, hfr.tr hfv, by omega⟩
      have J308 : ∀ (v : Wd) (S : Nat → Option Nat), v.1 = u.1 + 4 → Fr u v → v.2 u.1 = some (true, eR 2 4 S) → S 0 = some (u.1 + 1) → RowAt v (u.1 + 1) (pq b r 1 r j).1 5 → S 1 = some (u.1 + 2) → RowAt v (u.1 + 2) (pq b r 0 1 j).1 5 → S 2 = some (u.1 + 3) → RowAt v (u.1 + 3) (pq b r 1 r j).2 5 → G E X 13 308 [some (iI b), some (iI (j : Int)), some (iI r), some (iI (cf b r j).1), some (iI (cf b r j).2.1), some (iI (cf b r j).2.2), some (.ref w.1), some (iI (j : Int)), none, none, none, none, none] [.ref u.1] v 9 43 := by
        intro v S hv hfv hS c0 b0 c1 b1 c2 b2
        refine g_dup C dX8_walked_308 rfl ?_
        refine g_iconst C dX8_walked_309 ?_
        refine g_iconst C dX8_walked_310 ?_
        refine g_aload C dX8_walked_311 rfl ?_
        refine g_iconst C dX8_walked_313 ?_
        refine g_aaloadN (2) C rfl rfl ((hfv.2 _ (by omega)).trans hR) (by omega) (by omega) r2 dX8_walked_314 ?_
        refine g_callS C (c_X8_cut _ (s := 1) (a := i2) (n := 5) (c := 5) (b := true) (f := f2) ((hfv.2 _ (by omega)).trans e2) (by omega) (by omega) (by omega) d2 (Or.inl rfl)) ml_RX8_55 sm_yX8_cut in_RX8 co_yX8_cut hd_X8_cut rfl ⟨by omega, by omega⟩ rfl (Nat.le_of_ble_eq_true rfl) ⟨by omega, by omega⟩ dX8_walked_315 (fun v315 w315 hp315 => ?_)
        obtain ⟨m9, h9, rfl, rfl, hb9, hm9⟩ := hp315
        rw [Int.one_mul, g2] at hb9
        refine g_aastoreI C 3 (by rw [wpush_n (by omega)]; exact hS) wpush_s rfl (by omega) dX8_walked_318 ?_
        exact J319 _ _ (by show v.1 + 1 = _; omega) ((hfv.push _).set (Nat.le_refl _) _) wset_s (by rw [rup_n (by omega)]; exact c0) (b0.keep (wseg (by omega) (by omega))) (by rw [rup_n (by omega)]; exact c1) (b1.keep (wseg (by omega) (by omega))) (by rw [rup_n (by omega)]; exact c2) (b2.keep (wseg (by omega) (by omega))) (by rw [rup_s, hv]) ⟨m9, h9, by rw [wset_n (by omega), ← hv]; exact wpush_s, hb9, hm9⟩
      have J297 : ∀ (v : Wd) (S : Nat → Option Nat), v.1 = u.1 + 3 → Fr u v → v.2 u.1 = some (true, eR 2 4 S) → S 0 = some (u.1 + 1) → RowAt v (u.1 + 1) (pq b r 1 r j).1 5 → S 1 = some (u.1 + 2) → RowAt v (u.1 + 2) (pq b r 0 1 j).1 5 → G E X 13 297 [some (iI b), some (iI (j : Int)), some (iI r), some (iI (cf b r j).1), some (iI (cf b r j).2.1), some (iI (cf b r j).2.2), some (.ref w.1), some (iI (j : Int)), none, none, none, none, none] [.ref u.1] v 8 38 := by
        intro v S hv hfv hS c0 b0 c1 b1
        refine g_dup C dX8_walked_297 rfl ?_
        refine g_iconst C dX8_walked_298 ?_
        refine g_iconst C dX8_walked_299 ?_
        refine g_aload C dX8_walked_300 rfl ?_
        refine g_iconst C dX8_walked_302 ?_
        refine g_aaloadN (0) C rfl rfl ((hfv.2 _ (by omega)).trans hR) (by omega) (by omega) r0 dX8_walked_303 ?_
        refine g_callS C (c_X8_cut _ (s := 1) (a := i0) (n := 5) (c := 5) (b := true) (f := f0) ((hfv.2 _ (by omega)).trans e0) (by omega) (by omega) (by omega) d0 (Or.inl rfl)) ml_RX8_55 sm_yX8_cut in_RX8 co_yX8_cut hd_X8_cut rfl ⟨by omega, by omega⟩ rfl (Nat.le_of_ble_eq_true rfl) ⟨by omega, by omega⟩ dX8_walked_304 (fun v304 w304 hp304 => ?_)
        obtain ⟨m9, h9, rfl, rfl, hb9, hm9⟩ := hp304
        rw [Int.one_mul, g0] at hb9
        refine g_aastoreI C 2 (by rw [wpush_n (by omega)]; exact hS) wpush_s rfl (by omega) dX8_walked_307 ?_
        exact J308 _ _ (by show v.1 + 1 = _; omega) ((hfv.push _).set (Nat.le_refl _) _) wset_s (by rw [rup_n (by omega)]; exact c0) (b0.keep (wseg (by omega) (by omega))) (by rw [rup_n (by omega)]; exact c1) (b1.keep (wseg (by omega) (by omega))) (by rw [rup_s, hv]) ⟨m9, h9, by rw [wset_n (by omega), ← hv]; exact wpush_s, hb9, hm9⟩
      have J286 : ∀ (v : Wd) (S : Nat → Option Nat), v.1 = u.1 + 2 → Fr u v → v.2 u.1 = some (true, eR 2 4 S) → S 0 = some (u.1 + 1) → RowAt v (u.1 + 1) (pq b r 1 r j).1 5 → G E X 13 286 [some (iI b), some (iI (j : Int)), some (iI r), some (iI (cf b r j).1), some (iI (cf b r j).2.1), some (iI (cf b r j).2.2), some (.ref w.1), some (iI (j : Int)), none, none, none, none, none] [.ref u.1] v 7 33 := by
        intro v S hv hfv hS c0 b0
        refine g_dup C dX8_walked_286 rfl ?_
        refine g_iconst C dX8_walked_287 ?_
        refine g_iconst C dX8_walked_288 ?_
        refine g_aload C dX8_walked_289 rfl ?_
        refine g_iconst C dX8_walked_291 ?_
        refine g_aaloadN (3) C rfl rfl ((hfv.2 _ (by omega)).trans hR) (by omega) (by omega) r3 dX8_walked_292 ?_
        refine g_callS C (c_X8_cut _ (s := 1) (a := i3) (n := 5) (c := 5) (b := true) (f := f3) ((hfv.2 _ (by omega)).trans e3) (by omega) (by omega) (by omega) d3 (Or.inl rfl)) ml_RX8_55 sm_yX8_cut in_RX8 co_yX8_cut hd_X8_cut rfl ⟨by omega, by omega⟩ rfl (Nat.le_of_ble_eq_true rfl) ⟨by omega, by omega⟩ dX8_walked_293 (fun v293 w293 hp293 => ?_)
        obtain ⟨m9, h9, rfl, rfl, hb9, hm9⟩ := hp293
        rw [Int.one_mul, g3] at hb9
        refine g_aastoreI C 1 (by rw [wpush_n (by omega)]; exact hS) wpush_s rfl (by omega) dX8_walked_296 ?_
        exact J297 _ _ (by show v.1 + 1 = _; omega) ((hfv.push _).set (Nat.le_refl _) _) wset_s (by rw [rup_n (by omega)]; exact c0) (b0.keep (wseg (by omega) (by omega))) (by rw [rup_s, hv]) ⟨m9, h9, by rw [wset_n (by omega), ← hv]; exact wpush_s, hb9, hm9⟩
      refine g_iconst C dX8_walked_271 ?_
      refine g_anewI C kl_RX8_19 (N := 4) rfl (by omega) (by omega) dX8_walked_272 ?_
      refine g_dup C dX8_walked_275 rfl ?_
      refine g_iconst C dX8_walked_276 ?_
      refine g_iconst C dX8_walked_277 ?_
      refine g_aload C dX8_walked_278 rfl ?_
      refine g_iconst C dX8_walked_280 ?_
      refine g_aaloadN (1) C rfl rfl ((wpush_n (by omega)).trans hR) (by omega) (by omega) r1 dX8_walked_281 ?_
      refine g_callS C (c_X8_cut _ (s := 1) (a := i1) (n := 5) (c := 5) (b := true) (f := f1) ((wpush_n (by omega)).trans e1) (by omega) (by omega) (by omega) d1 (Or.inl rfl)) ml_RX8_55 sm_yX8_cut in_RX8 co_yX8_cut hd_X8_cut rfl ⟨by omega, by omega⟩ rfl (Nat.le_of_ble_eq_true rfl) ⟨by omega, by omega⟩ dX8_walked_282 (fun v282 w282 hp282 => ?_)
      obtain ⟨m9, h9, rfl, rfl, hb9, hm9⟩ := hp282
      rw [Int.one_mul, g1] at hb9
      refine g_aastoreI C 0 (by rw [wpush_n (by show u.1 ≠ u.1 + 1; omega)]; exact wpush_s) wpush_s rfl (by omega) dX8_walked_285 ?_
      exact J286 _ _ (rfl) ((((Fr.rf u).push _).push _).set (Nat.le_refl _) _) wset_s (by rw [rup_s]; rfl) ⟨m9, h9, by rw [wset_n (by omega)]; exact wpush_s, hb9, hm9⟩
    · have c0 := cf_good hb hr (k := j) (by omega)
      have c1 := cf_good hb hr (k := j + 1) (by omega)
      have pr := pq_r (x0 := 1) (x1 := r) hb hr (by omega) (by omega) (k := j + 1) (by omega)
      have qr := pq_r (x0 := 0) (x1 := 1) hb hr (by omega) (by omega) (k := j + 1) (by omega)
      have lt27 := p19
      have le27 := p19le (j := j + 1) (by omega)
      have pn : pq b r 1 r (j + 1) = ((cf b r (j + 1)).2.2 * (pq b r 1 r j).1 + (pq b r 1 r j).2, (pq b r 1 r j).1) := rfl
      have qn : pq b r 0 1 (j + 1) = ((cf b r (j + 1)).2.2 * (pq b r 0 1 j).1 + (pq b r 0 1 j).2, (pq b r 0 1 j).1) := rfl
      have s0 : (cf b r (j + 1)).1 = (cf b r j).2.1 * (cf b r j).2.2 - (cf b r j).1 := rfl
      have s1' : (cf b r (j + 1)).2.1 = (b - (cf b r (j + 1)).1 * (cf b r (j + 1)).1) / (cf b r j).2.1 := rfl
      have s2' : (cf b r (j + 1)).2.2 = (r + (cf b r (j + 1)).1) / (cf b r (j + 1)).2.1 := rfl
      generalize hp : cf b r (j + 1) = p at c1 s0 s1' s2' pn qn
      obtain ⟨pm, pd, pa⟩ := p
      dsimp only at c1 s0 s1' s2' pn qn
      have hsq : 0 ≤ pm * pm := Int.mul_nonneg c1.1 c1.1
      have hsq2 : pm * pm ≤ r * r := Int.mul_le_mul c1.2.1 c1.2.1 c1.1 hr.1
      have hsq3 := hr.2.1
      rw [pn] at pr
      rw [qn] at qr
      dsimp only at pr qr
      refine g_iload C dX8_walked_132 rfl ?_
      refine g_iload C dX8_walked_134 rfl ?_
      refine g_imul C dX8_walked_136 ?_
      refine g_iload_n C dX8_walked_137 rfl ?_
      refine g_isub C dX8_walked_138 ?_
      rw [← s0]
      refine g_istore_n C dX8_walked_139 (by decide) rfl ?_
      refine g_iload_n C dX8_walked_140 rfl ?_
      refine g_iload_n C dX8_walked_141 rfl ?_
      refine g_iload_n C dX8_walked_142 rfl ?_
      refine g_imul C dX8_walked_143 ?_
      refine g_isub C dX8_walked_144 ?_
      refine g_iload C dX8_walked_145 rfl ?_
      refine g_idivN C dX8_walked_147 (by omega) (by omega) ?_
      rw [← s1']
      refine g_istore C dX8_walked_148 (by decide) rfl ?_
      refine g_iload_n C dX8_walked_150 rfl ?_
      refine g_iload_n C dX8_walked_151 rfl ?_
      refine g_iadd C dX8_walked_152 ?_
      refine g_iload C dX8_walked_153 rfl ?_
      refine g_idivN C dX8_walked_155 (by omega) (by omega) ?_
      rw [← s2']
      refine g_istore C dX8_walked_156 (by decide) rfl ?_
      refine g_iconst C dX8_walked_158 ?_
      refine g_istore C dX8_walked_159 (by decide) rfl ?_
      refine g_loop (σ := Nat × Wd) (fun q => q.1 = 0 ∧ W4 w q.2 (pq b r 1 r j).1 (pq b r 1 r j).2 (pq b r 0 1 j).1 (pq b r 0 1 j).2 ∨ q.1 = 2 ∧ W4 w q.2 (pa * (pq b r 1 r j).1 + (pq b r 1 r j).2) (pq b r 1 r j).1 (pq b r 0 1 j).1 (pq b r 0 1 j).2 ∨ q.1 = 4 ∧ W4 w q.2 (pa * (pq b r 1 r j).1 + (pq b r 1 r j).2) (pq b r 1 r j).1 (pa * (pq b r 0 1 j).1 + (pq b r 0 1 j).2) (pq b r 0 1 j).1) (fun q => G E X 13 161 [some (iI b), some (iI (K : Int)), some (iI r), some (iI pm), some (iI pd), some (iI pa), some (.ref w.1), some (iI (j : Int)), some (iI (q.1 : Int)), none, none, none, none] [] q.2 5 24) (fun q => 4 - q.1) ?_ (0, u) (Or.inl ⟨rfl, hW⟩)
      clear hW
      rintro ⟨wh, v⟩ hq ih2
      dsimp only at hq ⊢
      have hwh : wh ≤ 4 := by rcases hq with q | q | q <;> omega
      refine g_iload C dX8_walked_161 rfl ?_
      refine g_iconst C dX8_walked_163 ?_
      refine g_icmp_ge (tgt := 265) C dX8_walked_164 (by decide) (by omega) (by omega) (fun h164 => ?_) (fun h164 => ?_)
      · have hW' : W4 w v (pq b r 1 r (j + 1)).1 (pq b r 1 r (j + 1)).2 (pq b r 0 1 (j + 1)).1 (pq b r 0 1 (j + 1)).2 := by
          rw [pn, qn]
          rcases hq with q | q | q
          · omega
          · omega
          · exact q.2
        refine g_iinc C dX8_walked_265 rfl (by decide) rfl ?_
        refine g_goto (tgt := 126) C dX8_walked_268 (by decide) ?_
        refine g_less (L' := [some (iI b), some (iI (K : Int)), some (iI r), some (iI (cf b r (j + 1)).1), some (iI (cf b r (j + 1)).2.1), some (iI (cf b r (j + 1)).2.2), some (.ref w.1), some (iI (((j + 1 : Nat) : Int) : Int)), none, none, none, none, none]) (fun i v hv => ?_) ?_
        · rw [hp] at hv
          rcases i with _ | _ | _ | _ | _ | _ | _ | _ | _ | _ | _ | _ | _ | i <;> first | exact hv | (simp at hv)
        exact ih (j + 1, v) ⟨by dsimp only; omega, hW'⟩ (by dsimp only; omega)
      · have hst : ∃ x1 x0 : Int, 0 ≤ pa * x1 + x0 ∧ pa * x1 + x0 < B30 ^ 4 ∧ W4s w v wh (fun v' => (fun q : Nat × Wd => q.1 = 0 ∧ W4 w q.2 (pq b r 1 r j).1 (pq b r 1 r j).2 (pq b r 0 1 j).1 (pq b r 0 1 j).2 ∨ q.1 = 2 ∧ W4 w q.2 (pa * (pq b r 1 r j).1 + (pq b r 1 r j).2) (pq b r 1 r j).1 (pq b r 0 1 j).1 (pq b r 0 1 j).2 ∨ q.1 = 4 ∧ W4 w q.2 (pa * (pq b r 1 r j).1 + (pq b r 1 r j).2) (pq b r 1 r j).1 (pa * (pq b r 0 1 j).1 + (pq b r 0 1 j).2) (pq b r 0 1 j).1) (wh + 2, v')) pa x1 x0 := by
          rcases hq with ⟨q, hW⟩ | ⟨q, hW⟩ | ⟨q, hW⟩
          · subst q
            obtain ⟨R, x, y, f, g, a1, a2, a3, a4, a5, a6, a7, a8, a9, a10, a11, a12, a13⟩ := hW.s0 (a := pa)
            exact ⟨_, _, by omega, by omega, R, x, y, f, g, a1, a2, a3, a4, a5, a6, a7, a8, a9, a10, a11, a12, fun h dh gh => Or.inr (Or.inl ⟨rfl, a13 h dh gh⟩)⟩
          · subst q
            obtain ⟨R, x, y, f, g, a1, a2, a3, a4, a5, a6, a7, a8, a9, a10, a11, a12, a13⟩ := hW.s2 (a := pa)
            exact ⟨_, _, by omega, by omega, R, x, y, f, g, a1, a2, a3, a4, a5, a6, a7, a8, a9, a10, a11, a12, fun h dh gh => Or.inr (Or.inr ⟨rfl, a13 h dh gh⟩)⟩
          · omega
        obtain ⟨x1, x0, hlo, hhi, R, x, y, f, g, hR, hRx, hRy, hxy, hx, hy, hvx, hvy, df, dg', gf, gg, hP⟩ := hst
        refine g_aload C dX8_walked_167 rfl ?_
        refine g_iload C dX8_walked_169 rfl ?_
        refine g_aaloadN (wh) C rfl rfl hR (by omega) (by omega) hRx dX8_walked_171 ?_
        refine g_astore C dX8_walked_172 (by decide) rfl ?_
        refine g_lconst (z := 0) C dX8_walked_174 (by decide) ?_
        refine g_lstore C dX8_walked_175 (by decide) rfl ?_
        refine g_iconst C dX8_walked_177 ?_
        refine g_istore C dX8_walked_178 (by decide) rfl ?_
        refine g_loop (σ := Nat × Int × (Nat → Int)) (fun q => q.1 ≤ 4 ∧ (0 ≤ q.2.1 ∧ q.2.1 ≤ 18) ∧ DG q.2.2 5 ∧ (∀ i, q.1 + 1 ≤ i → q.2.2 i = f i) ∧ nv B30 (mgf q.2.2) q.1 + q.2.1 * B30 ^ q.1 = pa * nv B30 (mgf g) q.1 + nv B30 (mgf f) q.1) (fun q => G E X 13 180 [some (iI b), some (iI (K : Int)), some (iI r), some (iI pm), some (iI pd), some (iI pa), some (.ref w.1), some (iI (j : Int)), some (iI (wh : Int)), some (.ref x), some (jJ q.2.1), none, some (iI ((q.1 + 1 : Nat) : Int))] [] (wset v x (true, eI 5 q.2.2)) 5 24) (fun q => 4 - q.1) ?_ (0, 0, f) ⟨by dsimp only; omega, by dsimp only; omega, df, fun i _ => rfl, by show (0 : Int) + 0 * 1 = pa * 0 + 0; omega⟩ |> g_eqw (wset_id hvx).symm
        rintro ⟨t, c, h⟩ hq3 ih3
        obtain ⟨ht, hc, dh, hh, hvv⟩ := hq3
        dsimp only at ht hc dh hh hvv ⊢
        have hvR : (wset v x (true, eI 5 h)).2 w.1 = some (true, eR 2 4 R) := by rw [wset_n (by omega)]; exact hR
        have hvy' : (wset v x (true, eI 5 h)).2 y = some (true, eI 5 g) := by rw [wset_n (by omega)]; exact hvy
        have hvx' : (wset v x (true, eI 5 h)).2 x = some (true, eI 5 h) := wset_s
        refine g_iload C dX8_walked_180 rfl ?_
        refine g_iconst C dX8_walked_182 ?_
        refine g_icmp_ge (tgt := 238) C dX8_walked_183 (by decide) (by omega) (by omega) (fun h183 => ?_) (fun h183 => ?_)
        · have ht4 : t = 4 := by omega
          subst ht4
          have hmh : mg h 5 + c * B30 ^ 4 = pa * x1 + x0 := by rw [← gg, ← gf]; exact hvv
          have hc0 : c = 0 := by
            have n0 := mg_nonneg dh
            rcases Int.lt_or_le 0 c with q | q
            · have : 1 * B30 ^ 4 ≤ c * B30 ^ 4 := Int.mul_le_mul_of_nonneg_right (by omega) (Int.le_of_lt (pw_pos (by decide) 4))
              omega
            · omega
          subst hc0
          rw [Int.zero_mul, Int.add_zero] at hmh
          refine g_aload C dX8_walked_238 rfl ?_
          refine g_iload C dX8_walked_240 rfl ?_
          refine g_aload C dX8_walked_242 rfl ?_
          refine g_iload C dX8_walked_244 rfl ?_
          refine g_iconst C dX8_walked_246 ?_
          refine g_iadd C dX8_walked_247 ?_
          refine g_aaloadN (wh + 1) C rfl rfl hvR (by omega) (by omega) hRy dX8_walked_248 ?_
          refine g_aastoreI C wh hvR hvy' rfl (by omega) dX8_walked_249 ?_
          refine g_aload C dX8_walked_250 rfl ?_
          refine g_iload C dX8_walked_252 rfl ?_
          refine g_iconst C dX8_walked_254 ?_
          refine g_iadd C dX8_walked_255 ?_
          refine g_aload C dX8_walked_256 rfl ?_
          refine g_aastoreI C (wh + 1) wset_s (by rw [wset_n (by omega)]; exact hvx') (by omega) (by omega) dX8_walked_258 ?_
          rw [wset_set]
          refine g_iinc C dX8_walked_259 rfl (by decide) rfl ?_
          refine g_goto (tgt := 161) C dX8_walked_262 (by decide) ?_
          refine g_less (L' := [some (iI b), some (iI (K : Int)), some (iI r), some (iI pm), some (iI pd), some (iI pa), some (.ref w.1), some (iI (j : Int)), some (iI (((wh + 2 : Nat) : Int) : Int)), none, none, none, none]) (fun i v hv => ?_) ?_
          · rcases i with _ | _ | _ | _ | _ | _ | _ | _ | _ | _ | _ | _ | _ | i <;> first | exact hv | (simp at hv)
          exact ih2 (wh + 2, _) (hP h dh hmh) (by dsimp only; omega)
        · have hgt := dg' (t + 1) (by omega) (by omega)
          have hht := dh (t + 1) (by omega) (by omega)
          have m1 : 0 ≤ pa * g (t + 1) := Int.mul_nonneg (by omega) hgt.1
          have m2 : pa * g (t + 1) ≤ 18 * 1073741823 := Int.mul_le_mul (by omega) (by omega) hgt.1 (by omega)
          refine g_lload C dX8_walked_186 rfl ?_
          refine g_iload C dX8_walked_188 rfl ?_
          refine g_i2l C dX8_walked_190 (by omega) ?_
          refine g_aload C dX8_walked_191 rfl ?_
          refine g_iload C dX8_walked_193 rfl ?_
          refine g_iconst C dX8_walked_195 ?_
          refine g_iadd C dX8_walked_196 ?_
          refine g_aaloadN (wh + 1) C rfl rfl hvR (by omega) (by omega) hRy dX8_walked_197 ?_
          refine g_iload C dX8_walked_198 rfl ?_
          refine g_ialoadN (t + 1) C hvy' (by omega) (by omega) dX8_walked_200 ?_
          refine g_i2l C dX8_walked_201 (by omega) ?_
          refine g_lmul C dX8_walked_202 ?_
          refine g_aload C dX8_walked_203 rfl ?_
          refine g_iload C dX8_walked_205 rfl ?_
          refine g_ialoadN (t + 1) C hvx' (by omega) (by omega) dX8_walked_207 ?_
          refine g_i2l C dX8_walked_208 (by omega) ?_
          refine g_ladd C dX8_walked_209 ?_
          refine g_ladd C dX8_walked_210 ?_
          refine g_lstore C dX8_walked_211 (by decide) rfl ?_
          refine g_aload C dX8_walked_213 rfl ?_
          refine g_iload C dX8_walked_215 rfl ?_
          refine g_lload C dX8_walked_217 rfl ?_
          refine g_ldc2 (z := 1073741823) C kj_RX8_53 (by decide) dX8_walked_219 ?_
          refine g_land (z := (c + (pa * g (t + 1) + h (t + 1))) % 1073741824) C dX8_walked_222 (j_mask 30 (by omega) (by decide)) ?_
          refine g_l2i C dX8_walked_223 ?_
          refine g_iastoreN (t + 1) C hvx' (by omega) (by omega) dX8_walked_224 ?_
          rw [wset_set]
          refine g_lload C dX8_walked_225 rfl ?_
          refine g_bipush C dX8_walked_227 (by decide) ?_
          refine g_lshr (z := (c + (pa * g (t + 1) + h (t + 1))) / 1073741824) C dX8_walked_229 (j_shr30 (by omega) (by omega)) ?_
          refine g_lstore C dX8_walked_230 (by decide) rfl ?_
          refine g_iinc C dX8_walked_232 rfl (by decide) rfl ?_
          refine g_goto (tgt := 180) C dX8_walked_235 (by decide) ?_
          refine g_less (L' := [some (iI b), some (iI (K : Int)), some (iI r), some (iI pm), some (iI pd), some (iI pa), some (.ref w.1), some (iI (j : Int)), some (iI (wh : Int)), some (.ref x), some (jJ ((c + (pa * g (t + 1) + h (t + 1))) / 1073741824)), none, some (iI ((t + 1 + 1 : Nat) : Int))]) (fun i v hv => by exact hv) ?_
          exact ih3 (t + 1, (c + (pa * g (t + 1) + h (t + 1))) / 1073741824, iup h (t + 1) ((c + (pa * g (t + 1) + h (t + 1))) % 1073741824)) ⟨by dsimp only; omega, by dsimp only; omega, fun i h1 h2 => by
            dsimp only at h2 ⊢
            by_cases q : i = t + 1
            · rw [q, iup_s]; omega
            · rw [iup_n q]; exact dh i h1 h2, fun i h1 => by
            dsimp only at h1 ⊢
            rw [iup_n (by omega)]; exact hh i (by omega), by
            show nv B30 (mgf (iup h (t + 1) _)) (t + 1) + _ * B30 ^ (t + 1) = _
            rw [mgf_iup]
            exact mad_step (B := B30) hvv (by show _ = c + (pa * g (t + 1) + f (t + 1)); rw [hh (t + 1) (by omega)])⟩ (by dsimp only; omega)
  have J95 : ∀ (u : Wd) (R : Nat → Option Nat), u.1 = w.1 + 4 → Fr w u → u.2 w.1 = some (true, eR 2 4 R) → u.2 (w.1 + 1) = some (true, eI 5 (row5 1)) → R 0 = some (w.1 + 1) → u.2 (w.1 + 2) = some (true, eI 5 (row5 r)) → R 1 = some (w.1 + 2) → u.2 (w.1 + 3) = some (true, eI 5 (row5 0)) → R 2 = some (w.1 + 3) → G E X 13 95 [some (iI b), some (iI (K : Int)), some (iI r), some (iI 0), some (iI 1), some (iI r), none, none, none, none, none, none, none] [.ref w.1] u 4 19 := by
    intro u R hu hfr hR b0 c0 b1 c1 b2 c2
    refine g_dup C dX8_walked_95 rfl ?_
    refine g_iconst C dX8_walked_96 ?_
    refine g_iconst C dX8_walked_97 ?_
    refine g_newI C gw_arrayClass_int (N := 5) rfl (by omega) (by omega) dX8_walked_98 ?_
    refine g_dup C dX8_walked_100 rfl ?_
    refine g_iconst C dX8_walked_101 ?_
    refine g_iconst C dX8_walked_102 ?_
    refine g_iastore C wpush_s (by omega) dX8_walked_103 ?_
    rw [wset_push]
    refine g_dup C dX8_walked_104 rfl ?_
    refine g_iconst C dX8_walked_105 ?_
    refine g_iconst C dX8_walked_106 ?_
    refine g_iastore C wpush_s (by omega) dX8_walked_107 ?_
    rw [wset_push]
    refine g_dup C dX8_walked_108 rfl ?_
    refine g_iconst C dX8_walked_109 ?_
    refine g_iconst C dX8_walked_110 ?_
    refine g_iastore C wpush_s (by omega) dX8_walked_111 ?_
    rw [wset_push]
    refine g_dup C dX8_walked_112 rfl ?_
    refine g_iconst C dX8_walked_113 ?_
    refine g_iconst C dX8_walked_114 ?_
    refine g_iastore C wpush_s (by omega) dX8_walked_115 ?_
    rw [wset_push]
    refine g_dup C dX8_walked_116 rfl ?_
    refine g_iconst C dX8_walked_117 ?_
    refine g_iconst C dX8_walked_118 ?_
    refine g_iastore C wpush_s (by omega) dX8_walked_119 ?_
    rw [wset_push]
    refine g_aastoreI C 3 (by rw [wpush_n (by omega)]; exact hR) wpush_s rfl (by omega) dX8_walked_120 ?_
    exact J121 _ _ (by show u.1 + 1 = _; omega) ((hfr.push _).set (Nat.le_refl _) _) wset_s (by rw [wset_n (by omega), wpush_n (by omega)]; exact b0) (by rw [rup_n (by omega)]; exact c0) (by rw [wset_n (by omega), wpush_n (by omega)]; exact b1) (by rw [rup_n (by omega)]; exact c1) (by rw [wset_n (by omega), wpush_n (by omega)]; exact b2) (by rw [rup_n (by omega)]; exact c2) (by rw [wset_n (by omega), ← hu]; exact wpush_s) (by rw [rup_s, hu])
  have J69 : ∀ (u : Wd) (R : Nat → Option Nat), u.1 = w.1 + 3 → Fr w u → u.2 w.1 = some (true, eR 2 4 R) → u.2 (w.1 + 1) = some (true, eI 5 (row5 1)) → R 0 = some (w.1 + 1) → u.2 (w.1 + 2) = some (true, eI 5 (row5 r)) → R 1 = some (w.1 + 2) → G E X 13 69 [some (iI b), some (iI (K : Int)), some (iI r), some (iI 0), some (iI 1), some (iI r), none, none, none, none, none, none, none] [.ref w.1] u 3 14 := by
    intro u R hu hfr hR b0 c0 b1 c1
    refine g_dup C dX8_walked_69 rfl ?_
    refine g_iconst C dX8_walked_70 ?_
    refine g_iconst C dX8_walked_71 ?_
    refine g_newI C gw_arrayClass_int (N := 5) rfl (by omega) (by omega) dX8_walked_72 ?_
    refine g_dup C dX8_walked_74 rfl ?_
    refine g_iconst C dX8_walked_75 ?_
    refine g_iconst C dX8_walked_76 ?_
    refine g_iastore C wpush_s (by omega) dX8_walked_77 ?_
    rw [wset_push]
    refine g_dup C dX8_walked_78 rfl ?_
    refine g_iconst C dX8_walked_79 ?_
    refine g_iconst C dX8_walked_80 ?_
    refine g_iastore C wpush_s (by omega) dX8_walked_81 ?_
    rw [wset_push]
    refine g_dup C dX8_walked_82 rfl ?_
    refine g_iconst C dX8_walked_83 ?_
    refine g_iconst C dX8_walked_84 ?_
    refine g_iastore C wpush_s (by omega) dX8_walked_85 ?_
    rw [wset_push]
    refine g_dup C dX8_walked_86 rfl ?_
    refine g_iconst C dX8_walked_87 ?_
    refine g_iconst C dX8_walked_88 ?_
    refine g_iastore C wpush_s (by omega) dX8_walked_89 ?_
    rw [wset_push]
    refine g_dup C dX8_walked_90 rfl ?_
    refine g_iconst C dX8_walked_91 ?_
    refine g_iconst C dX8_walked_92 ?_
    refine g_iastore C wpush_s (by omega) dX8_walked_93 ?_
    rw [wset_push]
    refine g_aastoreI C 2 (by rw [wpush_n (by omega)]; exact hR) wpush_s rfl (by omega) dX8_walked_94 ?_
    exact J95 _ _ (by show u.1 + 1 = _; omega) ((hfr.push _).set (Nat.le_refl _) _) wset_s (by rw [wset_n (by omega), wpush_n (by omega)]; exact b0) (by rw [rup_n (by omega)]; exact c0) (by rw [wset_n (by omega), wpush_n (by omega)]; exact b1) (by rw [rup_n (by omega)]; exact c1) (by rw [wset_n (by omega), ← hu]; exact wpush_s) (by rw [rup_s, hu])
  have J43 : ∀ (u : Wd) (R : Nat → Option Nat), u.1 = w.1 + 2 → Fr w u → u.2 w.1 = some (true, eR 2 4 R) → u.2 (w.1 + 1) = some (true, eI 5 (row5 1)) → R 0 = some (w.1 + 1) → G E X 13 43 [some (iI b), some (iI (K : Int)), some (iI r), some (iI 0), some (iI 1), some (iI r), none, none, none, none, none, none, none] [.ref w.1] u 2 9 := by
    intro u R hu hfr hR b0 c0
    refine g_dup C dX8_walked_43 rfl ?_
    refine g_iconst C dX8_walked_44 ?_
    refine g_iconst C dX8_walked_45 ?_
    refine g_newI C gw_arrayClass_int (N := 5) rfl (by omega) (by omega) dX8_walked_46 ?_
    refine g_dup C dX8_walked_48 rfl ?_
    refine g_iconst C dX8_walked_49 ?_
    refine g_iconst C dX8_walked_50 ?_
    refine g_iastore C wpush_s (by omega) dX8_walked_51 ?_
    rw [wset_push]
    refine g_dup C dX8_walked_52 rfl ?_
    refine g_iconst C dX8_walked_53 ?_
    refine g_iload_n C dX8_walked_54 rfl ?_
    refine g_iastore C wpush_s (by omega) dX8_walked_55 ?_
    rw [wset_push]
    refine g_dup C dX8_walked_56 rfl ?_
    refine g_iconst C dX8_walked_57 ?_
    refine g_iconst C dX8_walked_58 ?_
    refine g_iastore C wpush_s (by omega) dX8_walked_59 ?_
    rw [wset_push]
    refine g_dup C dX8_walked_60 rfl ?_
    refine g_iconst C dX8_walked_61 ?_
    refine g_iconst C dX8_walked_62 ?_
    refine g_iastore C wpush_s (by omega) dX8_walked_63 ?_
    rw [wset_push]
    refine g_dup C dX8_walked_64 rfl ?_
    refine g_iconst C dX8_walked_65 ?_
    refine g_iconst C dX8_walked_66 ?_
    refine g_iastore C wpush_s (by omega) dX8_walked_67 ?_
    rw [wset_push]
    refine g_aastoreI C 1 (by rw [wpush_n (by omega)]; exact hR) wpush_s rfl (by omega) dX8_walked_68 ?_
    exact J69 _ _ (by show u.1 + 1 = _; omega) ((hfr.push _).set (Nat.le_refl _) _) wset_s (by rw [wset_n (by omega), wpush_n (by omega)]; exact b0) (by rw [rup_n (by omega)]; exact c0) (by rw [wset_n (by omega), ← hu]; exact wpush_s) (by rw [rup_s, hu])
  refine g_iconst C dX8_walked_13 ?_
  refine g_anewI C kl_RX8_19 (N := 4) rfl (by omega) (by omega) dX8_walked_14 ?_
  refine g_dup C dX8_walked_17 rfl ?_
  refine g_iconst C dX8_walked_18 ?_
  refine g_iconst C dX8_walked_19 ?_
  refine g_newI C gw_arrayClass_int (N := 5) rfl (by omega) (by omega) dX8_walked_20 ?_
  refine g_dup C dX8_walked_22 rfl ?_
  refine g_iconst C dX8_walked_23 ?_
  refine g_iconst C dX8_walked_24 ?_
  refine g_iastore C wpush_s (by omega) dX8_walked_25 ?_
  rw [wset_push]
  refine g_dup C dX8_walked_26 rfl ?_
  refine g_iconst C dX8_walked_27 ?_
  refine g_iconst C dX8_walked_28 ?_
  refine g_iastore C wpush_s (by omega) dX8_walked_29 ?_
  rw [wset_push]
  refine g_dup C dX8_walked_30 rfl ?_
  refine g_iconst C dX8_walked_31 ?_
  refine g_iconst C dX8_walked_32 ?_
  refine g_iastore C wpush_s (by omega) dX8_walked_33 ?_
  rw [wset_push]
  refine g_dup C dX8_walked_34 rfl ?_
  refine g_iconst C dX8_walked_35 ?_
  refine g_iconst C dX8_walked_36 ?_
  refine g_iastore C wpush_s (by omega) dX8_walked_37 ?_
  rw [wset_push]
  refine g_dup C dX8_walked_38 rfl ?_
  refine g_iconst C dX8_walked_39 ?_
  refine g_iconst C dX8_walked_40 ?_
  refine g_iastore C wpush_s (by omega) dX8_walked_41 ?_
  rw [wset_push]
  refine g_aastoreI C 0 (by rw [wpush_n (by show w.1 ≠ w.1 + 1; omega)]; exact wpush_s) wpush_s rfl (by omega) dX8_walked_42 ?_
  exact J43 _ _ (rfl) ((((Fr.rf w).push _).push _).set (Nat.le_refl _) _) wset_s (by rw [wset_n (by omega)]; exact wpush_s) (by rw [rup_s]; rfl)
