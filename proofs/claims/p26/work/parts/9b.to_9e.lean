/-! the law's wrappers -/
/-- the model's cells stay -/
def KM (τ : Nat → Nat) (w w' : Wd) : Prop := w.1 ≤ w'.1 ∧ ∀ a x, τ a < 100 → w.2 a = some x → w'.2 a = some x
theorem KO.km {τ : Nat → Nat} {w w' : Wd} (h : KO τ w w') : KM τ w w' := ⟨h.1, fun a x t e => h.2 a x (Or.inl t) e⟩
theorem CS.kq {τ ad : Nat → Nat} {w w' : Wd} {bs ss : Nat → Int} {pb : Nat → PT} {P Q : Nat → Nat} {ct : Nat → Int} (h : CS τ ad w bs ss pb P Q ct) (k : ∀ t x, 100 ≤ t → us t = true → w.2 (ad t) = some x → w'.2 (ad t) = some x) : CS τ ad w' bs ss pb P Q ct := by
  have kk : ∀ {t : Nat} {x : WdE}, 100 ≤ t ∧ (t ≤ 110 ∨ (120 ≤ t ∧ t < 123) ∨ (130 ≤ t ∧ t < 135) ∨ (140 ≤ t ∧ t < 146) ∨ (200 ≤ t ∧ t ≤ 340)) → w.2 (ad t) = some x → w'.2 (ad t) = some x := fun {t} {x} ht e => k t x ht.1 (us_i.mpr ht.2) e
  have nn : ∀ {j : Nat} {z : Int}, j < 70 → NW ad w j z → NW ad w' j z := fun {j} {z} hj e => e.k (fun x q => kk (t := 200 + 2 * j) (by omega) q) (fun x q => kk (t := 201 + 2 * j) (by omega) q)
  obtain ⟨⟨R1, a1, b1⟩, ⟨R2, a2, b2⟩, ⟨R3, a3, b3⟩⟩ := h.A
  obtain ⟨fb, fr, m, d, a, ⟨h1, h2, h3, h4, ⟨R, h5, h6⟩, ⟨R2', h7, h8⟩⟩, g⟩ := h.F
  obtain ⟨gg, hg1, hg2⟩ := h.N.2.2
  refine ⟨⟨h.N.1, fun j hj => (h.N.W hj).kp (fun q x hq e => ?_), gg, kk (by omega) hg1, hg2⟩, kk (by omega) h.o, ⟨⟨R1, kk (by omega) a1, b1⟩, ⟨R2, kk (by omega) a2, b2⟩, ⟨R3, kk (by omega) a3, b3⟩⟩, fun i hi => ⟨kk (by omega) (h.W i hi).1, (h.W i hi).2⟩, fun i hi => ⟨⟨kk (t := 140 + i) (by omega) (h.P i hi).1.1, nn (by omega) (h.P i hi).1.2.1, nn (by omega) (h.P i hi).1.2.2⟩, (h.P i hi).2⟩, fun i hi => ⟨kk (by omega) (h.S i hi).1, (h.S i hi).2⟩, kk (by omega) h.D,
    ⟨fb, fr, m, d, a, ⟨kk (t := 104) (by omega) h1, kk (t := 105) (by omega) h2, kk (t := 106) (by omega) h3, kk (t := 107) (by omega) h4, ⟨R, kk (t := 108) (by omega) h5, h6⟩, ⟨R2', kk (t := 109) (by omega) h7, h8⟩⟩, g.1.imp id (fun q => ⟨q.1, fun i hi => ⟨nn (by omega) (q.2 i hi).1, nn (by omega) (q.2 i hi).2⟩⟩), g.2⟩⟩
  rcases hq with r | r
  · rw [r] at e ⊢; exact kk (t := 200 + 2 * j) (by omega) e
  · rw [r] at e ⊢; exact kk (t := 201 + 2 * j) (by omega) e
theorem CS.out {τ ad : Nat → Nat} {w : Wd} {bs ss : Nat → Int} {pb : Nat → PT} {P Q : Nat → Nat} {ct : Nat → Int} (h : CS τ ad w bs ss pb P Q ct) {o : Nat} (ho : τ o = 199) (e : WdE) : CS τ ad (wset w o e) bs ss pb P Q ct :=
  h.kq (fun t x t1 tu he => by
    have hu := us_i.mp tu
    rw [wset_n (fun q => by
      have := h.N.t t (by omega)
      rw [q, ho] at this
      omega)]
    exact he)
theorem KM.out {τ : Nat → Nat} {w u : Wd} (h : KM τ w u) {o : Nat} (ho : τ o = 199) (e : WdE) : KM τ w (wset u o e) := ⟨h.1, fun a x t he => by
  rw [wset_n (fun q => by rw [q, ho] at t; omega)]
  exact h.2 a x t he⟩
set_option maxHeartbeats 4000000 in
set_option maxRecDepth 100000 in
theorem w_L_open (l : Launch) {K : KC} {E : GE} {w : Wd} (hfl : l.stackTraces = false) {τ ad : Nat → Nat} {bs ss : Nat → Int} {pb : Nat → PT} {P Q : Nat → Nat} {ct : Nat → Int} (hC0 : CS τ ad w bs ss pb P Q ct) {o : Nat} (hτ : τ o = 199) {n0 : Int} {s0 : Value} (hO : w.2 o = some (true, eO 9 [jJ n0, s0])) {vi : Int} (h_vi : -2147483648 ≤ vi ∧ vi < 2147483648) {b : Int} (h_b : -2147483648 ≤ b ∧ b < 2147483648) : Th K E l yL_open cL_open 5 (some .int) [(0, 11, 14, 19), (0, 11, 18, 21)] 10 (1) (6) [.ref (ad 100), iI vi, iI b, .ref o] w (fun r' w' => (¬ ((0 ≤ vi ∧ vi ≤ 2)) ∧ r' = some (iI 1) ∧ w.1 ≤ w'.1 ∧ w'.2 = w.2) ∨ (((0 ≤ vi ∧ vi ≤ 2)) ∧ ¬ (GB b) ∧ r' = some (iI 2) ∧ w.1 ≤ w'.1 ∧ w'.2 = w.2) ∨ (((0 ≤ vi ∧ vi ≤ 2)) ∧ (GB b) ∧ r' = some (iI 0) ∧ ∃ (i : Nat), vi = (i : Int) ∧ ∃ (zz : Int) (uu : Wd) (sv : Value), (-2147483648 ≤ zz ∧ zz < 2147483648) ∧ (∃ r, (some (iI zz)) = some (iI r) ∧ RT b r ∧ CS τ ad uu (iup bs i b) (iup ss i 0) (pb) (P) (Q) (iup ct 0 (ct 0 + 1)) ∧ KO τ w uu) ∧ w' = wset uu o (true, eO 9 [jJ zz, sv]))) := by
  refine th_intro [some (.ref (ad 100)), some (iI vi), some (iI b), some (.ref o), none] rfl (Nat.le_of_ble_eq_true rfl) pn_L ?_
  intro X C hT hH hRm hl htab hQ
  obtain ⟨hRf, hRl, hRc, hRs⟩ := hRm
  have hls : (xl X).stackTraces = false := by rw [hl]; exact hfl
  refine g_wf (fun hwf => ?_)
  refine g_aload_n C dL_open_0 rfl ?_
  refine g_aload_n C dL_open_1 rfl ?_
  refine g_iload_n C dL_open_2 rfl ?_
  refine g_iload_n C dL_open_3 rfl ?_
  by_cases hc1 : (0 ≤ vi ∧ vi ≤ 2)
  · by_cases hc2 : GB b
    · obtain ⟨i, rfl⟩ : ∃ i : Nat, vi = (i : Int) := ⟨vi.toNat, by omega⟩
      have hgb_b : GB b := hc2
      refine t_callV C hT (s_X6_open _ hC0 (i := i) (b := b) (by omega) hgb_b) (RcV.ob (ci := 8) C rfl hC0.o) rfl ml_RL_7 im_yX6_open se_RX6_yX6_open in_RX6 co_yX6_open hd_X6_open rfl ⟨by omega, by omega⟩ rfl (Nat.le_of_ble_eq_true rfl) ⟨by omega, by omega⟩ dL_open_4 (fun v uu hp => ?_)
      obtain ⟨z0, hzv⟩ : ∃ z : Int, v = some (iI z) := ⟨_, hp.choose_spec.1⟩
      subst hzv
      obtain ⟨zz, hzz, hz1, hz2⟩ := gen32 (Int32.ofInt z0)
      rw [show iI z0 = iI zz from congrArg Value.int hzz] at hp ⊢
      have hz12 : -2147483648 ≤ zz ∧ zz < 2147483648 := ⟨hz1, hz2⟩
      have hko : KO τ w uu := hp.choose_spec.2.2.2
      have hO2 := hko.2 o _ (Or.inr hτ) hO
      refine g_i2l C dL_open_7 hz12 ?_
      refine g_putN (ci := 9) C rfl inTX7 tyX7 tyX7_ok nmX7 0 (by decide) hH.2.2.2.2.2.2.1 rfl rfl hO2 (Nat.le_of_ble_eq_true rfl) rfl rfl dL_open_8 ?_
      refine g_goto (tgt := 22) C dL_open_11 (by decide) ?_
      refine g_iconst C dL_open_22 ?_
      exact g_ireturn C hQ dL_open_23 (by omega) (by omega) (Or.inr (Or.inr ⟨hc1, hc2, rfl, i, rfl, zz, uu, s0, hz12, hp, rfl⟩))
    · refine x_tryV C hT hH (x_X6_open_IA _ hls (a0 := ad 100) (p := vi) (q := b) h_vi h_b hc1 hc2) (RcV.ob (ci := 8) C rfl hC0.o) rfl ml_RL_7 im_yX6_open se_RX6_yX6_open in_RX6 co_yX6_open hd_X6_open rfl ⟨by omega, by omega⟩ rfl (Nat.le_of_ble_eq_true rfl) ⟨by omega, by omega⟩ dL_open_4 [⟨0, 11, 14, 19⟩] ⟨0, 11, 18, 21⟩ [] (by rw [htab]; rfl) (fun z hz => by
          rw [List.mem_singleton.mp hz]
          exact Or.inr ⟨by decide, sIO, kl_RL_19, hH.2.2.1⟩) (by decide) (by decide) kl_RL_21 hH.2.1 (fun q w2 hp => ?_)
      refine g_astore C dL_open_18 (by decide) rfl ?_
      refine g_iconst C dL_open_20 ?_
      exact g_ireturn C hQ dL_open_21 (by omega) (by omega) (Or.inr (Or.inl ⟨hc1, hc2, rfl, hp.1, hp.2⟩))
  · refine x_tryV C hT hH (x_X6_open_IO _ hls (a0 := ad 100) (p := vi) (q := b) h_vi h_b  hc1) (RcV.ob (ci := 8) C rfl hC0.o) rfl ml_RL_7 im_yX6_open se_RX6_yX6_open in_RX6 co_yX6_open hd_X6_open rfl ⟨by omega, by omega⟩ rfl (Nat.le_of_ble_eq_true rfl) ⟨by omega, by omega⟩ dL_open_4 [] ⟨0, 11, 14, 19⟩ [⟨0, 11, 18, 21⟩] (by rw [htab]; rfl) (fun z hz => nomatch hz) (by decide) (by decide) kl_RL_19 hH.1 (fun q w2 hp => ?_)
    refine g_astore C dL_open_14 (by decide) rfl ?_
    refine g_iconst C dL_open_16 ?_
    exact g_ireturn C hQ dL_open_17 (by omega) (by omega) (Or.inl ⟨hc1, rfl, hp.1, hp.2⟩)
set_option maxHeartbeats 4000000 in
set_option maxRecDepth 100000 in
theorem w_L_forth (l : Launch) {K : KC} {E : GE} {w : Wd} (hfl : l.stackTraces = false) {τ ad : Nat → Nat} {bs ss : Nat → Int} {pb : Nat → PT} {P Q : Nat → Nat} {ct : Nat → Int} (hC0 : CS τ ad w bs ss pb P Q ct) {o : Nat} (hτ : τ o = 199) {n0 : Int} {s0 : Value} (hO : w.2 o = some (true, eO 9 [jJ n0, s0])) {vi : Int} (h_vi : -2147483648 ≤ vi ∧ vi < 2147483648) {x : Int} (h_x : -2147483648 ≤ x ∧ x < 2147483648) : Th K E l yL_forth cL_forth 5 (some .int) [(0, 11, 14, 19), (0, 11, 18, 21)] 10 (1) (6) [.ref (ad 100), iI vi, iI x, .ref o] w (fun r' w' => (¬ ((0 ≤ vi ∧ vi ≤ 2)) ∧ r' = some (iI 1) ∧ w.1 ≤ w'.1 ∧ w'.2 = w.2) ∨ (((0 ≤ vi ∧ vi ≤ 2)) ∧ ¬ ((1 ≤ x ∧ x ≤ 6)) ∧ r' = some (iI 2) ∧ w.1 ≤ w'.1 ∧ w'.2 = w.2) ∨ (((0 ≤ vi ∧ vi ≤ 2)) ∧ ((1 ≤ x ∧ x ≤ 6)) ∧ r' = some (iI 0) ∧ ∃ (i : Nat), vi = (i : Int) ∧ ∃ (zz : Int) (uu : Wd) (sv : Value), (-2147483648 ≤ zz ∧ zz < 2147483648) ∧ (((24 < ss i + x ∧ (some (iI zz)) = some (iI (-9)) ∧ CS τ ad uu (bs) (ss) (pb) (P) (Q) (iup ct 3 (ct 3 + 1))) ∨ (ss i + x ≤ 24 ∧ (some (iI zz)) = some (iI (ss i + x)) ∧ CS τ ad uu (bs) (iup ss i (ss i + x)) (pb) (P) (Q) (iup ct 0 (ct 0 + 1)))) ∧ KO τ w uu) ∧ w' = wset uu o (true, eO 9 [jJ zz, sv]))) := by
  refine th_intro [some (.ref (ad 100)), some (iI vi), some (iI x), some (.ref o), none] rfl (Nat.le_of_ble_eq_true rfl) pn_L ?_
  intro X C hT hH hRm hl htab hQ
  obtain ⟨hRf, hRl, hRc, hRs⟩ := hRm
  have hls : (xl X).stackTraces = false := by rw [hl]; exact hfl
  refine g_wf (fun hwf => ?_)
  refine g_aload_n C dL_forth_0 rfl ?_
  refine g_aload_n C dL_forth_1 rfl ?_
  refine g_iload_n C dL_forth_2 rfl ?_
  refine g_iload_n C dL_forth_3 rfl ?_
  by_cases hc1 : (0 ≤ vi ∧ vi ≤ 2)
  · by_cases hc2 : (1 ≤ x ∧ x ≤ 6)
    · obtain ⟨i, rfl⟩ : ∃ i : Nat, vi = (i : Int) := ⟨vi.toNat, by omega⟩
      refine t_callV C hT (s_X6_forth _ hC0 (i := i) (x := x) (by omega) (by omega)) (RcV.ob (ci := 8) C rfl hC0.o) rfl ml_RL_23 im_yX6_forth se_RX6_yX6_forth in_RX6 co_yX6_forth hd_X6_forth rfl ⟨by omega, by omega⟩ rfl (Nat.le_of_ble_eq_true rfl) ⟨by omega, by omega⟩ dL_forth_4 (fun v uu hp => ?_)
      obtain ⟨z0, hzv⟩ : ∃ z : Int, v = some (iI z) := by
        rcases hp.1 with h | h
        · exact ⟨_, h.2.1⟩
        · exact ⟨_, h.2.1⟩
      subst hzv
      obtain ⟨zz, hzz, hz1, hz2⟩ := gen32 (Int32.ofInt z0)
      rw [show iI z0 = iI zz from congrArg Value.int hzz] at hp ⊢
      have hz12 : -2147483648 ≤ zz ∧ zz < 2147483648 := ⟨hz1, hz2⟩
      have hko : KO τ w uu := hp.2
      have hO2 := hko.2 o _ (Or.inr hτ) hO
      refine g_i2l C dL_forth_7 hz12 ?_
      refine g_putN (ci := 9) C rfl inTX7 tyX7 tyX7_ok nmX7 0 (by decide) hH.2.2.2.2.2.2.1 rfl rfl hO2 (Nat.le_of_ble_eq_true rfl) rfl rfl dL_forth_8 ?_
      refine g_goto (tgt := 22) C dL_forth_11 (by decide) ?_
      refine g_iconst C dL_forth_22 ?_
      exact g_ireturn C hQ dL_forth_23 (by omega) (by omega) (Or.inr (Or.inr ⟨hc1, hc2, rfl, i, rfl, zz, uu, s0, hz12, hp, rfl⟩))
    · refine x_tryV C hT hH (x_X6_forth_IA _ hls (a0 := ad 100) (p := vi) (q := x) h_vi h_x hc1 hc2) (RcV.ob (ci := 8) C rfl hC0.o) rfl ml_RL_23 im_yX6_forth se_RX6_yX6_forth in_RX6 co_yX6_forth hd_X6_forth rfl ⟨by omega, by omega⟩ rfl (Nat.le_of_ble_eq_true rfl) ⟨by omega, by omega⟩ dL_forth_4 [⟨0, 11, 14, 19⟩] ⟨0, 11, 18, 21⟩ [] (by rw [htab]; rfl) (fun z hz => by
          rw [List.mem_singleton.mp hz]
          exact Or.inr ⟨by decide, sIO, kl_RL_19, hH.2.2.1⟩) (by decide) (by decide) kl_RL_21 hH.2.1 (fun q w2 hp => ?_)
      refine g_astore C dL_forth_18 (by decide) rfl ?_
      refine g_iconst C dL_forth_20 ?_
      exact g_ireturn C hQ dL_forth_21 (by omega) (by omega) (Or.inr (Or.inl ⟨hc1, hc2, rfl, hp.1, hp.2⟩))
  · refine x_tryV C hT hH (x_X6_forth_IO _ hls (a0 := ad 100) (p := vi) (q := x) h_vi h_x  hc1) (RcV.ob (ci := 8) C rfl hC0.o) rfl ml_RL_23 im_yX6_forth se_RX6_yX6_forth in_RX6 co_yX6_forth hd_X6_forth rfl ⟨by omega, by omega⟩ rfl (Nat.le_of_ble_eq_true rfl) ⟨by omega, by omega⟩ dL_forth_4 [] ⟨0, 11, 14, 19⟩ [⟨0, 11, 18, 21⟩] (by rw [htab]; rfl) (fun z hz => nomatch hz) (by decide) (by decide) kl_RL_19 hH.1 (fun q w2 hp => ?_)
    refine g_astore C dL_forth_14 (by decide) rfl ?_
    refine g_iconst C dL_forth_16 ?_
    exact g_ireturn C hQ dL_forth_17 (by omega) (by omega) (Or.inl ⟨hc1, rfl, hp.1, hp.2⟩)
set_option maxHeartbeats 4000000 in
set_option maxRecDepth 100000 in
theorem w_L_back (l : Launch) {K : KC} {E : GE} {w : Wd} (hfl : l.stackTraces = false) {τ ad : Nat → Nat} {bs ss : Nat → Int} {pb : Nat → PT} {P Q : Nat → Nat} {ct : Nat → Int} (hC0 : CS τ ad w bs ss pb P Q ct) {o : Nat} (hτ : τ o = 199) {n0 : Int} {s0 : Value} (hO : w.2 o = some (true, eO 9 [jJ n0, s0])) {vi : Int} (h_vi : -2147483648 ≤ vi ∧ vi < 2147483648) : Th K E l yL_back cL_back 4 (some .int) [(0, 10, 13, 19)] 10 (1) (6) [.ref (ad 100), iI vi, .ref o] w (fun r' w' => (¬ ((0 ≤ vi ∧ vi ≤ 2)) ∧ r' = some (iI 1) ∧ w.1 ≤ w'.1 ∧ w'.2 = w.2) ∨ (((0 ≤ vi ∧ vi ≤ 2)) ∧ r' = some (iI 0) ∧ ∃ (i : Nat), vi = (i : Int) ∧ ∃ (zz : Int) (uu : Wd) (sv : Value), (-2147483648 ≤ zz ∧ zz < 2147483648) ∧ (((ss i = 0 ∧ (some (iI zz)) = some (iI (-9)) ∧ CS τ ad uu (bs) (ss) (pb) (P) (Q) (iup ct 3 (ct 3 + 1))) ∨ (0 < ss i ∧ (some (iI zz)) = some (iI (ss i - 1)) ∧ CS τ ad uu (bs) (iup ss i (ss i - 1)) (pb) (P) (Q) (iup ct 0 (ct 0 + 1)))) ∧ KO τ w uu) ∧ w' = wset uu o (true, eO 9 [jJ zz, sv]))) := by
  refine th_intro [some (.ref (ad 100)), some (iI vi), some (.ref o), none] rfl (Nat.le_of_ble_eq_true rfl) pn_L ?_
  intro X C hT hH hRm hl htab hQ
  obtain ⟨hRf, hRl, hRc, hRs⟩ := hRm
  have hls : (xl X).stackTraces = false := by rw [hl]; exact hfl
  refine g_wf (fun hwf => ?_)
  refine g_aload_n C dL_back_0 rfl ?_
  refine g_aload_n C dL_back_1 rfl ?_
  refine g_iload_n C dL_back_2 rfl ?_
  by_cases hc1 : (0 ≤ vi ∧ vi ≤ 2)
  · obtain ⟨i, rfl⟩ : ∃ i : Nat, vi = (i : Int) := ⟨vi.toNat, by omega⟩
    refine t_callV C hT (s_X6_back _ hC0 (i := i) (by omega)) (RcV.ob (ci := 8) C rfl hC0.o) rfl ml_RL_26 im_yX6_back se_RX6_yX6_back in_RX6 co_yX6_back hd_X6_back rfl ⟨by omega, by omega⟩ rfl (Nat.le_of_ble_eq_true rfl) ⟨by omega, by omega⟩ dL_back_3 (fun v uu hp => ?_)
    obtain ⟨z0, hzv⟩ : ∃ z : Int, v = some (iI z) := by
      rcases hp.1 with h | h
      · exact ⟨_, h.2.1⟩
      · exact ⟨_, h.2.1⟩
    subst hzv
    obtain ⟨zz, hzz, hz1, hz2⟩ := gen32 (Int32.ofInt z0)
    rw [show iI z0 = iI zz from congrArg Value.int hzz] at hp ⊢
    have hz12 : -2147483648 ≤ zz ∧ zz < 2147483648 := ⟨hz1, hz2⟩
    have hko : KO τ w uu := hp.2
    have hO2 := hko.2 o _ (Or.inr hτ) hO
    refine g_i2l C dL_back_6 hz12 ?_
    refine g_putN (ci := 9) C rfl inTX7 tyX7 tyX7_ok nmX7 0 (by decide) hH.2.2.2.2.2.2.1 rfl rfl hO2 (Nat.le_of_ble_eq_true rfl) rfl rfl dL_back_7 ?_
    refine g_goto (tgt := 16) C dL_back_10 (by decide) ?_
    refine g_iconst C dL_back_16 ?_
    exact g_ireturn C hQ dL_back_17 (by omega) (by omega) (Or.inr ⟨hc1, rfl, i, rfl, zz, uu, s0, hz12, hp, rfl⟩)
  · refine x_tryV C hT hH (x_X6_back_IO _ hls (a0 := ad 100) (p := vi) h_vi  hc1) (RcV.ob (ci := 8) C rfl hC0.o) rfl ml_RL_26 im_yX6_back se_RX6_yX6_back in_RX6 co_yX6_back hd_X6_back rfl ⟨by omega, by omega⟩ rfl (Nat.le_of_ble_eq_true rfl) ⟨by omega, by omega⟩ dL_back_3 [] ⟨0, 10, 13, 19⟩ [] (by rw [htab]; rfl) (fun z hz => nomatch hz) (by decide) (by decide) kl_RL_19 hH.1 (fun q w2 hp => ?_)
    refine g_astore_n C dL_back_13 (by decide) rfl ?_
    refine g_iconst C dL_back_14 ?_
    exact g_ireturn C hQ dL_back_15 (by omega) (by omega) (Or.inl ⟨hc1, rfl, hp.1, hp.2⟩)
set_option maxHeartbeats 4000000 in
set_option maxRecDepth 100000 in
theorem w_L_walkCopy (l : Launch) {K : KC} {E : GE} {w : Wd} (hfl : l.stackTraces = false) {τ ad : Nat → Nat} {bs ss : Nat → Int} {pb : Nat → PT} {P Q : Nat → Nat} {ct : Nat → Int} (hC0 : CS τ ad w bs ss pb P Q ct) {o : Nat} (hτ : τ o = 199) {n0 : Int} {s0 : Value} (hO : w.2 o = some (true, eO 9 [jJ n0, s0])) {vi : Int} (h_vi : -2147483648 ≤ vi ∧ vi < 2147483648) {vk : Int} (h_vk : -2147483648 ≤ vk ∧ vk < 2147483648) : Th K E l yL_walkCopy cL_walkCopy 5 (some .int) [(0, 11, 14, 19)] 10 (1) (6) [.ref (ad 100), iI vi, iI vk, .ref o] w (fun r' w' => (¬ ((0 ≤ vi ∧ vi ≤ 2) ∧ (0 ≤ vk ∧ vk ≤ 2)) ∧ r' = some (iI 1) ∧ w.1 ≤ w'.1 ∧ w'.2 = w.2) ∨ (((0 ≤ vi ∧ vi ≤ 2) ∧ (0 ≤ vk ∧ vk ≤ 2)) ∧ r' = some (iI 0) ∧ ∃ (i : Nat) (k : Nat), vi = (i : Int) ∧ vk = (k : Int) ∧ ∃ (zz : Int) (uu : Wd) (sv : Value), (-2147483648 ≤ zz ∧ zz < 2147483648) ∧ ((some (iI zz)) = some (iI (bI (bs i ≠ bs k ∨ ss i ≠ ss k))) ∧ CS τ ad uu (iup bs k (bs i)) (iup ss k (ss i)) (pb) (P) (Q) (iup ct 0 (ct 0 + 1)) ∧ KO τ w uu) ∧ w' = wset uu o (true, eO 9 [jJ zz, sv]))) := by
  refine th_intro [some (.ref (ad 100)), some (iI vi), some (iI vk), some (.ref o), none] rfl (Nat.le_of_ble_eq_true rfl) pn_L ?_
  intro X C hT hH hRm hl htab hQ
  obtain ⟨hRf, hRl, hRc, hRs⟩ := hRm
  have hls : (xl X).stackTraces = false := by rw [hl]; exact hfl
  refine g_wf (fun hwf => ?_)
  refine g_aload_n C dL_walkCopy_0 rfl ?_
  refine g_aload_n C dL_walkCopy_1 rfl ?_
  refine g_iload_n C dL_walkCopy_2 rfl ?_
  refine g_iload_n C dL_walkCopy_3 rfl ?_
  by_cases hc1 : (0 ≤ vi ∧ vi ≤ 2) ∧ (0 ≤ vk ∧ vk ≤ 2)
  · obtain ⟨i, rfl⟩ : ∃ i : Nat, vi = (i : Int) := ⟨vi.toNat, by omega⟩
    obtain ⟨k, rfl⟩ : ∃ k : Nat, vk = (k : Int) := ⟨vk.toNat, by omega⟩
    refine t_callV C hT (s_X6_walkCopy _ hC0 (i := i) (k := k) (by omega) (by omega)) (RcV.ob (ci := 8) C rfl hC0.o) rfl ml_RL_30 im_yX6_walkCopy se_RX6_yX6_walkCopy in_RX6 co_yX6_walkCopy hd_X6_walkCopy rfl ⟨by omega, by omega⟩ rfl (Nat.le_of_ble_eq_true rfl) ⟨by omega, by omega⟩ dL_walkCopy_4 (fun v uu hp => ?_)
    obtain ⟨z0, hzv⟩ : ∃ z : Int, v = some (iI z) := ⟨_, hp.1⟩
    subst hzv
    obtain ⟨zz, hzz, hz1, hz2⟩ := gen32 (Int32.ofInt z0)
    rw [show iI z0 = iI zz from congrArg Value.int hzz] at hp ⊢
    have hz12 : -2147483648 ≤ zz ∧ zz < 2147483648 := ⟨hz1, hz2⟩
    have hko : KO τ w uu := hp.2.2
    have hO2 := hko.2 o _ (Or.inr hτ) hO
    refine g_i2l C dL_walkCopy_7 hz12 ?_
    refine g_putN (ci := 9) C rfl inTX7 tyX7 tyX7_ok nmX7 0 (by decide) hH.2.2.2.2.2.2.1 rfl rfl hO2 (Nat.le_of_ble_eq_true rfl) rfl rfl dL_walkCopy_8 ?_
    refine g_goto (tgt := 18) C dL_walkCopy_11 (by decide) ?_
    refine g_iconst C dL_walkCopy_18 ?_
    exact g_ireturn C hQ dL_walkCopy_19 (by omega) (by omega) (Or.inr ⟨hc1, rfl, i, k, rfl, rfl, zz, uu, s0, hz12, hp, rfl⟩)
  · refine x_tryV C hT hH (x_X6_walkCopy_IO _ hls (a0 := ad 100) (p := vi) (q := vk) h_vi h_vk  hc1) (RcV.ob (ci := 8) C rfl hC0.o) rfl ml_RL_30 im_yX6_walkCopy se_RX6_yX6_walkCopy in_RX6 co_yX6_walkCopy hd_X6_walkCopy rfl ⟨by omega, by omega⟩ rfl (Nat.le_of_ble_eq_true rfl) ⟨by omega, by omega⟩ dL_walkCopy_4 [] ⟨0, 11, 14, 19⟩ [] (by rw [htab]; rfl) (fun z hz => nomatch hz) (by decide) (by decide) kl_RL_19 hH.1 (fun q w2 hp => ?_)
    refine g_astore C dL_walkCopy_14 (by decide) rfl ?_
    refine g_iconst C dL_walkCopy_16 ?_
    exact g_ireturn C hQ dL_walkCopy_17 (by omega) (by omega) (Or.inl ⟨hc1, rfl, hp.1, hp.2⟩)
set_option maxHeartbeats 4000000 in
set_option maxRecDepth 100000 in
theorem w_L_part (l : Launch) {K : KC} {E : GE} {w : Wd} (hfl : l.stackTraces = false) {τ ad : Nat → Nat} {bs ss : Nat → Int} {pb : Nat → PT} {P Q : Nat → Nat} {ct : Nat → Int} (hC0 : CS τ ad w bs ss pb P Q ct) {o : Nat} (hτ : τ o = 199) {n0 : Int} {s0 : Value} (hO : w.2 o = some (true, eO 9 [jJ n0, s0])) {vi : Int} (h_vi : -2147483648 ≤ vi ∧ vi < 2147483648) {z : Int} (h_z : -2147483648 ≤ z ∧ z < 2147483648) : Th K E l yL_part cL_part 5 (some .int) [(0, 11, 14, 19), (0, 11, 18, 21)] 10 (1) (6) [.ref (ad 100), iI vi, iI z, .ref o] w (fun r' w' => (¬ ((0 ≤ vi ∧ vi ≤ 2)) ∧ r' = some (iI 1) ∧ w.1 ≤ w'.1 ∧ w'.2 = w.2) ∨ (((0 ≤ vi ∧ vi ≤ 2)) ∧ ¬ ((0 ≤ z ∧ z ≤ 5)) ∧ r' = some (iI 2) ∧ w.1 ≤ w'.1 ∧ w'.2 = w.2) ∨ (((0 ≤ vi ∧ vi ≤ 2)) ∧ ((0 ≤ z ∧ z ≤ 5)) ∧ r' = some (iI 0) ∧ ∃ (i : Nat), vi = (i : Int) ∧ ∃ (zz : Int) (uu : Wd) (sv : Value), (-2147483648 ≤ zz ∧ zz < 2147483648) ∧ (∃ r, (some (iI zz)) = some (iI (prV (bs i) r (ss i) z)) ∧ RT (bs i) r ∧ CS τ ad uu (bs) (ss) (pb) (P) (Q) (ct) ∧ KO τ w uu) ∧ w' = wset uu o (true, eO 9 [jJ zz, sv]))) := by
  refine th_intro [some (.ref (ad 100)), some (iI vi), some (iI z), some (.ref o), none] rfl (Nat.le_of_ble_eq_true rfl) pn_L ?_
  intro X C hT hH hRm hl htab hQ
  obtain ⟨hRf, hRl, hRc, hRs⟩ := hRm
  have hls : (xl X).stackTraces = false := by rw [hl]; exact hfl
  refine g_wf (fun hwf => ?_)
  refine g_aload_n C dL_part_0 rfl ?_
  refine g_aload_n C dL_part_1 rfl ?_
  refine g_iload_n C dL_part_2 rfl ?_
  refine g_iload_n C dL_part_3 rfl ?_
  by_cases hc1 : (0 ≤ vi ∧ vi ≤ 2)
  · by_cases hc2 : (0 ≤ z ∧ z ≤ 5)
    · obtain ⟨i, rfl⟩ : ∃ i : Nat, vi = (i : Int) := ⟨vi.toNat, by omega⟩
      refine t_callV C hT (s_X6_part _ hC0 (i := i) (z := z) (by omega) (by omega)) (RcV.ob (ci := 8) C rfl hC0.o) rfl ml_RL_33 im_yX6_part se_RX6_yX6_part in_RX6 co_yX6_part hd_X6_part rfl ⟨by omega, by omega⟩ rfl (Nat.le_of_ble_eq_true rfl) ⟨by omega, by omega⟩ dL_part_4 (fun v uu hp => ?_)
      obtain ⟨z0, hzv⟩ : ∃ z : Int, v = some (iI z) := ⟨_, hp.choose_spec.1⟩
      subst hzv
      obtain ⟨zz, hzz, hz1, hz2⟩ := gen32 (Int32.ofInt z0)
      rw [show iI z0 = iI zz from congrArg Value.int hzz] at hp ⊢
      have hz12 : -2147483648 ≤ zz ∧ zz < 2147483648 := ⟨hz1, hz2⟩
      have hko : KO τ w uu := hp.choose_spec.2.2.2
      have hO2 := hko.2 o _ (Or.inr hτ) hO
      refine g_i2l C dL_part_7 hz12 ?_
      refine g_putN (ci := 9) C rfl inTX7 tyX7 tyX7_ok nmX7 0 (by decide) hH.2.2.2.2.2.2.1 rfl rfl hO2 (Nat.le_of_ble_eq_true rfl) rfl rfl dL_part_8 ?_
      refine g_goto (tgt := 22) C dL_part_11 (by decide) ?_
      refine g_iconst C dL_part_22 ?_
      exact g_ireturn C hQ dL_part_23 (by omega) (by omega) (Or.inr (Or.inr ⟨hc1, hc2, rfl, i, rfl, zz, uu, s0, hz12, hp, rfl⟩))
    · refine x_tryV C hT hH (x_X6_part_IA _ hls (a0 := ad 100) (p := vi) (q := z) h_vi h_z hc1 hc2) (RcV.ob (ci := 8) C rfl hC0.o) rfl ml_RL_33 im_yX6_part se_RX6_yX6_part in_RX6 co_yX6_part hd_X6_part rfl ⟨by omega, by omega⟩ rfl (Nat.le_of_ble_eq_true rfl) ⟨by omega, by omega⟩ dL_part_4 [⟨0, 11, 14, 19⟩] ⟨0, 11, 18, 21⟩ [] (by rw [htab]; rfl) (fun z hz => by
          rw [List.mem_singleton.mp hz]
          exact Or.inr ⟨by decide, sIO, kl_RL_19, hH.2.2.1⟩) (by decide) (by decide) kl_RL_21 hH.2.1 (fun q w2 hp => ?_)
      refine g_astore C dL_part_18 (by decide) rfl ?_
      refine g_iconst C dL_part_20 ?_
      exact g_ireturn C hQ dL_part_21 (by omega) (by omega) (Or.inr (Or.inl ⟨hc1, hc2, rfl, hp.1, hp.2⟩))
  · refine x_tryV C hT hH (x_X6_part_IO _ hls (a0 := ad 100) (p := vi) (q := z) h_vi h_z  hc1) (RcV.ob (ci := 8) C rfl hC0.o) rfl ml_RL_33 im_yX6_part se_RX6_yX6_part in_RX6 co_yX6_part hd_X6_part rfl ⟨by omega, by omega⟩ rfl (Nat.le_of_ble_eq_true rfl) ⟨by omega, by omega⟩ dL_part_4 [] ⟨0, 11, 14, 19⟩ [⟨0, 11, 18, 21⟩] (by rw [htab]; rfl) (fun z hz => nomatch hz) (by decide) (by decide) kl_RL_19 hH.1 (fun q w2 hp => ?_)
    refine g_astore C dL_part_14 (by decide) rfl ?_
    refine g_iconst C dL_part_16 ?_
    exact g_ireturn C hQ dL_part_17 (by omega) (by omega) (Or.inl ⟨hc1, rfl, hp.1, hp.2⟩)
set_option maxHeartbeats 4000000 in
set_option maxRecDepth 100000 in
theorem w_L_walkText (l : Launch) {K : KC} {E : GE} {w : Wd} (hfl : l.stackTraces = false) {τ ad : Nat → Nat} {bs ss : Nat → Int} {pb : Nat → PT} {P Q : Nat → Nat} {ct : Nat → Int} (hC0 : CS τ ad w bs ss pb P Q ct) {o : Nat} (hτ : τ o = 199) {n0 : Int} {s0 : Value} (hO : w.2 o = some (true, eO 9 [jJ n0, s0])) {vi : Int} (h_vi : -2147483648 ≤ vi ∧ vi < 2147483648) {z : Int} (h_z : -2147483648 ≤ z ∧ z < 2147483648) {rx : Int} (h_rx : -2147483648 ≤ rx ∧ rx < 2147483648) : Th K E l yL_walkText cL_walkText 6 (some .int) [(0, 12, 15, 19), (0, 12, 19, 21)] 10 (61) (2600) [.ref (ad 100), iI vi, iI z, iI rx, .ref o] w (fun r' w' => (¬ ((0 ≤ vi ∧ vi ≤ 2)) ∧ r' = some (iI 1) ∧ w.1 ≤ w'.1 ∧ w'.2 = w.2) ∨ (((0 ≤ vi ∧ vi ≤ 2)) ∧ ¬ ((0 ≤ z ∧ z ≤ 3) ∧ (2 ≤ rx ∧ rx ≤ 16)) ∧ r' = some (iI 2) ∧ w.1 ≤ w'.1 ∧ w'.2 = w.2) ∨ (((0 ≤ vi ∧ vi ≤ 2)) ∧ ((0 ≤ z ∧ z ≤ 3) ∧ (2 ≤ rx ∧ rx ≤ 16)) ∧ r' = some (iI 0) ∧ ∃ (i : Nat), vi = (i : Int) ∧ ∃ (qq : Nat) (uu : Wd) (n : Int), ((∃ s : Nat, (some (Value.ref qq)) = some (Value.ref s)) ∧ CS τ ad uu (bs) (ss) (pb) (P) (Q) (ct) ∧ KO τ w uu) ∧ w' = wset uu o (true, eO 9 [jJ n, .ref qq]))) := by
  refine th_intro [some (.ref (ad 100)), some (iI vi), some (iI z), some (iI rx), some (.ref o), none] rfl (Nat.le_of_ble_eq_true rfl) pn_L ?_
  intro X C hT hH hRm hl htab hQ
  obtain ⟨hRf, hRl, hRc, hRs⟩ := hRm
  have hls : (xl X).stackTraces = false := by rw [hl]; exact hfl
  refine g_wf (fun hwf => ?_)
  refine g_aload C dL_walkText_0 rfl ?_
  refine g_aload_n C dL_walkText_2 rfl ?_
  refine g_iload_n C dL_walkText_3 rfl ?_
  refine g_iload_n C dL_walkText_4 rfl ?_
  refine g_iload_n C dL_walkText_5 rfl ?_
  by_cases hc1 : (0 ≤ vi ∧ vi ≤ 2)
  · by_cases hc2 : (0 ≤ z ∧ z ≤ 3) ∧ (2 ≤ rx ∧ rx ≤ 16)
    · obtain ⟨i, rfl⟩ : ∃ i : Nat, vi = (i : Int) := ⟨vi.toNat, by omega⟩
      refine t_callV C hT (s_X6_walkText _ hC0 (i := i) (z := z) (rx := rx) (by omega) (by omega) (by omega)) (RcV.ob (ci := 8) C rfl hC0.o) rfl ml_RL_36 im_yX6_walkText se_RX6_yX6_walkText in_RX6 co_yX6_walkText hd_X6_walkText rfl ⟨by omega, by omega⟩ rfl (Nat.le_of_ble_eq_true rfl) ⟨by omega, by omega⟩ dL_walkText_6 (fun v uu hp => ?_)
      obtain ⟨qq, hzv⟩ : ∃ q : Nat, v = some (.ref q) := hp.1
      subst hzv
      have hko : KO τ w uu := hp.2.2
      have hO2 := hko.2 o _ (Or.inr hτ) hO
      refine g_putN (ci := 9) C rfl inTX7 tyX7 tyX7_ok nmX7 1 (by decide) hH.2.2.2.2.2.2.2 rfl rfl hO2 (Nat.le_of_ble_eq_true rfl) rfl rfl dL_walkText_9 ?_
      refine g_goto (tgt := 23) C dL_walkText_12 (by decide) ?_
      refine g_iconst C dL_walkText_23 ?_
      exact g_ireturn C hQ dL_walkText_24 (by omega) (by omega) (Or.inr (Or.inr ⟨hc1, hc2, rfl, i, rfl, qq, uu, _, hp, rfl⟩))
    · refine x_tryV C hT hH (x_X6_walkText_IA _ hls (a0 := ad 100) (p := vi) (q := z) (r := rx) h_vi h_z h_rx hc1 hc2) (RcV.ob (ci := 8) C rfl hC0.o) rfl ml_RL_36 im_yX6_walkText se_RX6_yX6_walkText in_RX6 co_yX6_walkText hd_X6_walkText rfl ⟨by omega, by omega⟩ rfl (Nat.le_of_ble_eq_true rfl) ⟨by omega, by omega⟩ dL_walkText_6 [⟨0, 12, 15, 19⟩] ⟨0, 12, 19, 21⟩ [] (by rw [htab]; rfl) (fun z hz => by
          rw [List.mem_singleton.mp hz]
          exact Or.inr ⟨by decide, sIO, kl_RL_19, hH.2.2.1⟩) (by decide) (by decide) kl_RL_21 hH.2.1 (fun q w2 hp => ?_)
      refine g_astore C dL_walkText_19 (by decide) rfl ?_
      refine g_iconst C dL_walkText_21 ?_
      exact g_ireturn C hQ dL_walkText_22 (by omega) (by omega) (Or.inr (Or.inl ⟨hc1, hc2, rfl, hp.1, hp.2⟩))
  · refine x_tryV C hT hH (x_X6_walkText_IO _ hls (a0 := ad 100) (p := vi) (q := z) (r := rx) h_vi h_z h_rx  hc1) (RcV.ob (ci := 8) C rfl hC0.o) rfl ml_RL_36 im_yX6_walkText se_RX6_yX6_walkText in_RX6 co_yX6_walkText hd_X6_walkText rfl ⟨by omega, by omega⟩ rfl (Nat.le_of_ble_eq_true rfl) ⟨by omega, by omega⟩ dL_walkText_6 [] ⟨0, 12, 15, 19⟩ [⟨0, 12, 19, 21⟩] (by rw [htab]; rfl) (fun z hz => nomatch hz) (by decide) (by decide) kl_RL_19 hH.1 (fun q w2 hp => ?_)
    refine g_astore C dL_walkText_15 (by decide) rfl ?_
    refine g_iconst C dL_walkText_17 ?_
    exact g_ireturn C hQ dL_walkText_18 (by omega) (by omega) (Or.inl ⟨hc1, rfl, hp.1, hp.2⟩)
set_option maxHeartbeats 4000000 in
set_option maxRecDepth 100000 in
theorem w_L_test (l : Launch) {K : KC} {E : GE} {w : Wd} (hfl : l.stackTraces = false) {τ ad : Nat → Nat} {bs ss : Nat → Int} {pb : Nat → PT} {P Q : Nat → Nat} {ct : Nat → Int} (hC0 : CS τ ad w bs ss pb P Q ct) {o : Nat} (hτ : τ o = 199) {n0 : Int} {s0 : Value} (hO : w.2 o = some (true, eO 9 [jJ n0, s0])) {vi : Int} (h_vi : -2147483648 ≤ vi ∧ vi < 2147483648) {z : Int} (h_z : -2147483648 ≤ z ∧ z < 2147483648) : Th K E l yL_test cL_test 5 (some .int) [(0, 11, 14, 19), (0, 11, 18, 21)] 10 (1) (6) [.ref (ad 100), iI vi, iI z, .ref o] w (fun r' w' => (¬ ((0 ≤ vi ∧ vi ≤ 2)) ∧ r' = some (iI 1) ∧ w.1 ≤ w'.1 ∧ w'.2 = w.2) ∨ (((0 ≤ vi ∧ vi ≤ 2)) ∧ ¬ ((0 ≤ z ∧ z ≤ 2)) ∧ r' = some (iI 2) ∧ w.1 ≤ w'.1 ∧ w'.2 = w.2) ∨ (((0 ≤ vi ∧ vi ≤ 2)) ∧ ((0 ≤ z ∧ z ≤ 2)) ∧ r' = some (iI 0) ∧ ∃ (i : Nat), vi = (i : Int) ∧ ∃ (zz : Int) (uu : Wd) (sv : Value), (-2147483648 ≤ zz ∧ zz < 2147483648) ∧ ((∃ x : Int, (some (iI zz)) = some (iI x) ∧ ∃ r, RT (bs i) r ∧ x = tstV (bs i) r (ss i).toNat z) ∧ CS τ ad uu (bs) (ss) (pb) (P) (Q) (ct) ∧ KO τ w uu) ∧ w' = wset uu o (true, eO 9 [jJ zz, sv]))) := by
  refine th_intro [some (.ref (ad 100)), some (iI vi), some (iI z), some (.ref o), none] rfl (Nat.le_of_ble_eq_true rfl) pn_L ?_
  intro X C hT hH hRm hl htab hQ
  obtain ⟨hRf, hRl, hRc, hRs⟩ := hRm
  have hls : (xl X).stackTraces = false := by rw [hl]; exact hfl
  refine g_wf (fun hwf => ?_)
  refine g_aload_n C dL_test_0 rfl ?_
  refine g_aload_n C dL_test_1 rfl ?_
  refine g_iload_n C dL_test_2 rfl ?_
  refine g_iload_n C dL_test_3 rfl ?_
  by_cases hc1 : (0 ≤ vi ∧ vi ≤ 2)
  · by_cases hc2 : (0 ≤ z ∧ z ≤ 2)
    · obtain ⟨i, rfl⟩ : ∃ i : Nat, vi = (i : Int) := ⟨vi.toNat, by omega⟩
      refine t_callV C hT (s_X6_test _ hC0 (i := i) (z := z) (by omega) (by omega)) (RcV.ob (ci := 8) C rfl hC0.o) rfl ml_RL_44 im_yX6_test se_RX6_yX6_test in_RX6 co_yX6_test hd_X6_test rfl ⟨by omega, by omega⟩ rfl (Nat.le_of_ble_eq_true rfl) ⟨by omega, by omega⟩ dL_test_4 (fun v uu hp => ?_)
      obtain ⟨z0, hzv⟩ : ∃ z : Int, v = some (iI z) := ⟨_, hp.1.choose_spec.1⟩
      subst hzv
      obtain ⟨zz, hzz, hz1, hz2⟩ := gen32 (Int32.ofInt z0)
      rw [show iI z0 = iI zz from congrArg Value.int hzz] at hp ⊢
      have hz12 : -2147483648 ≤ zz ∧ zz < 2147483648 := ⟨hz1, hz2⟩
      have hko : KO τ w uu := hp.2.2
      have hO2 := hko.2 o _ (Or.inr hτ) hO
      refine g_i2l C dL_test_7 hz12 ?_
      refine g_putN (ci := 9) C rfl inTX7 tyX7 tyX7_ok nmX7 0 (by decide) hH.2.2.2.2.2.2.1 rfl rfl hO2 (Nat.le_of_ble_eq_true rfl) rfl rfl dL_test_8 ?_
      refine g_goto (tgt := 22) C dL_test_11 (by decide) ?_
      refine g_iconst C dL_test_22 ?_
      exact g_ireturn C hQ dL_test_23 (by omega) (by omega) (Or.inr (Or.inr ⟨hc1, hc2, rfl, i, rfl, zz, uu, s0, hz12, hp, rfl⟩))
    · refine x_tryV C hT hH (x_X6_test_IA _ hls (a0 := ad 100) (p := vi) (q := z) h_vi h_z hc1 hc2) (RcV.ob (ci := 8) C rfl hC0.o) rfl ml_RL_44 im_yX6_test se_RX6_yX6_test in_RX6 co_yX6_test hd_X6_test rfl ⟨by omega, by omega⟩ rfl (Nat.le_of_ble_eq_true rfl) ⟨by omega, by omega⟩ dL_test_4 [⟨0, 11, 14, 19⟩] ⟨0, 11, 18, 21⟩ [] (by rw [htab]; rfl) (fun z hz => by
          rw [List.mem_singleton.mp hz]
          exact Or.inr ⟨by decide, sIO, kl_RL_19, hH.2.2.1⟩) (by decide) (by decide) kl_RL_21 hH.2.1 (fun q w2 hp => ?_)
      refine g_astore C dL_test_18 (by decide) rfl ?_
      refine g_iconst C dL_test_20 ?_
      exact g_ireturn C hQ dL_test_21 (by omega) (by omega) (Or.inr (Or.inl ⟨hc1, hc2, rfl, hp.1, hp.2⟩))
  · refine x_tryV C hT hH (x_X6_test_IO _ hls (a0 := ad 100) (p := vi) (q := z) h_vi h_z  hc1) (RcV.ob (ci := 8) C rfl hC0.o) rfl ml_RL_44 im_yX6_test se_RX6_yX6_test in_RX6 co_yX6_test hd_X6_test rfl ⟨by omega, by omega⟩ rfl (Nat.le_of_ble_eq_true rfl) ⟨by omega, by omega⟩ dL_test_4 [] ⟨0, 11, 14, 19⟩ [⟨0, 11, 18, 21⟩] (by rw [htab]; rfl) (fun z hz => nomatch hz) (by decide) (by decide) kl_RL_19 hH.1 (fun q w2 hp => ?_)
    refine g_astore C dL_test_14 (by decide) rfl ?_
    refine g_iconst C dL_test_16 ?_
    exact g_ireturn C hQ dL_test_17 (by omega) (by omega) (Or.inl ⟨hc1, rfl, hp.1, hp.2⟩)
set_option maxHeartbeats 4000000 in
set_option maxRecDepth 100000 in
theorem w_L_walkBits (l : Launch) {K : KC} {E : GE} {w : Wd} (hfl : l.stackTraces = false) {τ ad : Nat → Nat} {bs ss : Nat → Int} {pb : Nat → PT} {P Q : Nat → Nat} {ct : Nat → Int} (hC0 : CS τ ad w bs ss pb P Q ct) {o : Nat} (hτ : τ o = 199) {n0 : Int} {s0 : Value} (hO : w.2 o = some (true, eO 9 [jJ n0, s0])) {vi : Int} (h_vi : -2147483648 ≤ vi ∧ vi < 2147483648) {y : Int} (hy_y : y = 0 ∨ y = 1) {z : Int} (h_z : -2147483648 ≤ z ∧ z < 2147483648) : Th K E l yL_walkBits cL_walkBits 6 (some .int) [(0, 13, 16, 19), (0, 13, 20, 21)] 10 (1) (6) [.ref (ad 100), iI vi, iI y, iI z, .ref o] w (fun r' w' => (¬ ((0 ≤ vi ∧ vi ≤ 2)) ∧ r' = some (iI 1) ∧ w.1 ≤ w'.1 ∧ w'.2 = w.2) ∨ (((0 ≤ vi ∧ vi ≤ 2)) ∧ ¬ ((0 ≤ z ∧ z ≤ 2)) ∧ r' = some (iI 2) ∧ w.1 ≤ w'.1 ∧ w'.2 = w.2) ∨ (((0 ≤ vi ∧ vi ≤ 2)) ∧ ((0 ≤ z ∧ z ≤ 2)) ∧ r' = some (iI 0) ∧ ∃ (i : Nat), vi = (i : Int) ∧ ∃ (zz : Int) (uu : Wd) (sv : Value), (-2147483648 ≤ zz ∧ zz < 2147483648) ∧ ((∃ x : Int, (some (iI zz)) = some (iI x) ∧ ∃ r, RT (bs i) r ∧ x = bitV (if y = 1 then (pq (bs i) r 1 r (ss i).toNat).1 else (pq (bs i) r 0 1 (ss i).toNat).1) z) ∧ CS τ ad uu (bs) (ss) (pb) (P) (Q) (ct) ∧ KO τ w uu) ∧ w' = wset uu o (true, eO 9 [jJ zz, sv]))) := by
  refine th_intro [some (.ref (ad 100)), some (iI vi), some (iI y), some (iI z), some (.ref o), none] rfl (Nat.le_of_ble_eq_true rfl) pn_L ?_
  intro X C hT hH hRm hl htab hQ
  obtain ⟨hRf, hRl, hRc, hRs⟩ := hRm
  have hls : (xl X).stackTraces = false := by rw [hl]; exact hfl
  refine g_wf (fun hwf => ?_)
  refine g_aload C dL_walkBits_0 rfl ?_
  refine g_aload_n C dL_walkBits_2 rfl ?_
  refine g_iload_n C dL_walkBits_3 rfl ?_
  refine g_iload_n C dL_walkBits_4 rfl ?_
  refine g_iload_n C dL_walkBits_5 rfl ?_
  by_cases hc1 : (0 ≤ vi ∧ vi ≤ 2)
  · by_cases hc2 : (0 ≤ z ∧ z ≤ 2)
    · obtain ⟨i, rfl⟩ : ∃ i : Nat, vi = (i : Int) := ⟨vi.toNat, by omega⟩
      refine t_callV C hT (s_X6_walkBits _ hC0 (i := i) (y := y) (z := z) (by omega) hy_y (by omega)) (RcV.ob (ci := 8) C rfl hC0.o) rfl ml_RL_47 im_yX6_walkBits se_RX6_yX6_walkBits in_RX6 co_yX6_walkBits hd_X6_walkBits rfl ⟨by omega, by omega⟩ rfl (Nat.le_of_ble_eq_true rfl) ⟨by omega, by omega⟩ dL_walkBits_6 (fun v uu hp => ?_)
      obtain ⟨z0, hzv⟩ : ∃ z : Int, v = some (iI z) := ⟨_, hp.1.choose_spec.1⟩
      subst hzv
      obtain ⟨zz, hzz, hz1, hz2⟩ := gen32 (Int32.ofInt z0)
      rw [show iI z0 = iI zz from congrArg Value.int hzz] at hp ⊢
      have hz12 : -2147483648 ≤ zz ∧ zz < 2147483648 := ⟨hz1, hz2⟩
      have hko : KO τ w uu := hp.2.2
      have hO2 := hko.2 o _ (Or.inr hτ) hO
      refine g_i2l C dL_walkBits_9 hz12 ?_
      refine g_putN (ci := 9) C rfl inTX7 tyX7 tyX7_ok nmX7 0 (by decide) hH.2.2.2.2.2.2.1 rfl rfl hO2 (Nat.le_of_ble_eq_true rfl) rfl rfl dL_walkBits_10 ?_
      refine g_goto (tgt := 24) C dL_walkBits_13 (by decide) ?_
      refine g_iconst C dL_walkBits_24 ?_
      exact g_ireturn C hQ dL_walkBits_25 (by omega) (by omega) (Or.inr (Or.inr ⟨hc1, hc2, rfl, i, rfl, zz, uu, s0, hz12, hp, rfl⟩))
    · refine x_tryV C hT hH (x_X6_walkBits_IA _ hls (a0 := ad 100) (p := vi) (q := y) (r := z) h_vi h_z hc1 hc2) (RcV.ob (ci := 8) C rfl hC0.o) rfl ml_RL_47 im_yX6_walkBits se_RX6_yX6_walkBits in_RX6 co_yX6_walkBits hd_X6_walkBits rfl ⟨by omega, by omega⟩ rfl (Nat.le_of_ble_eq_true rfl) ⟨by omega, by omega⟩ dL_walkBits_6 [⟨0, 13, 16, 19⟩] ⟨0, 13, 20, 21⟩ [] (by rw [htab]; rfl) (fun z hz => by
          rw [List.mem_singleton.mp hz]
          exact Or.inr ⟨by decide, sIO, kl_RL_19, hH.2.2.1⟩) (by decide) (by decide) kl_RL_21 hH.2.1 (fun q w2 hp => ?_)
      refine g_astore C dL_walkBits_20 (by decide) rfl ?_
      refine g_iconst C dL_walkBits_22 ?_
      exact g_ireturn C hQ dL_walkBits_23 (by omega) (by omega) (Or.inr (Or.inl ⟨hc1, hc2, rfl, hp.1, hp.2⟩))
  · refine x_tryV C hT hH (x_X6_walkBits_IO _ hls (a0 := ad 100) (p := vi) (q := y) (r := z) h_vi h_z  hc1) (RcV.ob (ci := 8) C rfl hC0.o) rfl ml_RL_47 im_yX6_walkBits se_RX6_yX6_walkBits in_RX6 co_yX6_walkBits hd_X6_walkBits rfl ⟨by omega, by omega⟩ rfl (Nat.le_of_ble_eq_true rfl) ⟨by omega, by omega⟩ dL_walkBits_6 [] ⟨0, 13, 16, 19⟩ [⟨0, 13, 20, 21⟩] (by rw [htab]; rfl) (fun z hz => nomatch hz) (by decide) (by decide) kl_RL_19 hH.1 (fun q w2 hp => ?_)
    refine g_astore C dL_walkBits_16 (by decide) rfl ?_
    refine g_iconst C dL_walkBits_18 ?_
    exact g_ireturn C hQ dL_walkBits_19 (by omega) (by omega) (Or.inl ⟨hc1, rfl, hp.1, hp.2⟩)
set_option maxHeartbeats 4000000 in
set_option maxRecDepth 100000 in
theorem w_L_bit (l : Launch) {K : KC} {E : GE} {w : Wd} (hfl : l.stackTraces = false) {τ ad : Nat → Nat} {bs ss : Nat → Int} {pb : Nat → PT} {P Q : Nat → Nat} {ct : Nat → Int} (hC0 : CS τ ad w bs ss pb P Q ct) {o : Nat} (hτ : τ o = 199) {n0 : Int} {s0 : Value} (hO : w.2 o = some (true, eO 9 [jJ n0, s0])) {vi : Int} (h_vi : -2147483648 ≤ vi ∧ vi < 2147483648) {y : Int} (hy_y : y = 0 ∨ y = 1) {vz : Int} (h_vz : -2147483648 ≤ vz ∧ vz < 2147483648) : Th K E l yL_bit cL_bit 6 (some .int) [(0, 20, 23, 19), (0, 20, 27, 21)] 10 (1) (6) [.ref (ad 100), iI vi, iI y, iI vz, .ref o] w (fun r' w' => (¬ ((0 ≤ vi ∧ vi ≤ 2)) ∧ r' = some (iI 1) ∧ w.1 ≤ w'.1 ∧ w'.2 = w.2) ∨ (((0 ≤ vi ∧ vi ≤ 2)) ∧ ¬ ((0 ≤ vz ∧ vz ≤ 119)) ∧ r' = some (iI 2) ∧ w.1 ≤ w'.1 ∧ w'.2 = w.2) ∨ (((0 ≤ vi ∧ vi ≤ 2)) ∧ ((0 ≤ vz ∧ vz ≤ 119)) ∧ r' = some (iI 0) ∧ ∃ (i : Nat) (z : Nat), vi = (i : Int) ∧ vz = (z : Int) ∧ ∃ (zz : Int) (uu : Wd) (sv : Value), (-2147483648 ≤ zz ∧ zz < 2147483648) ∧ ((∃ x : Int, (some (iI zz)) = some (iI x) ∧ (x = 0 ∨ x = 1) ∧ ∃ r, RT (bs i) r ∧ x = bI (bt (aB (if y = 1 then (pq (bs i) r 1 r (ss i).toNat).1 else (pq (bs i) r 0 1 (ss i).toNat).1)) z = 1)) ∧ CS τ ad uu (bs) (ss) (pb) (P) (Q) (ct) ∧ KO τ w uu) ∧ w' = wset uu o (true, eO 9 [jJ zz, sv]))) := by
  refine th_intro [some (.ref (ad 100)), some (iI vi), some (iI y), some (iI vz), some (.ref o), none] rfl (Nat.le_of_ble_eq_true rfl) pn_L ?_
  intro X C hT hH hRm hl htab hQ
  obtain ⟨hRf, hRl, hRc, hRs⟩ := hRm
  have hls : (xl X).stackTraces = false := by rw [hl]; exact hfl
  refine g_wf (fun hwf => ?_)
  refine g_aload C dL_bit_0 rfl ?_
  refine g_aload_n C dL_bit_2 rfl ?_
  refine g_iload_n C dL_bit_3 rfl ?_
  refine g_iload_n C dL_bit_4 rfl ?_
  refine g_iload_n C dL_bit_5 rfl ?_
  by_cases hc1 : (0 ≤ vi ∧ vi ≤ 2)
  · by_cases hc2 : (0 ≤ vz ∧ vz ≤ 119)
    · obtain ⟨i, rfl⟩ : ∃ i : Nat, vi = (i : Int) := ⟨vi.toNat, by omega⟩
      obtain ⟨z, rfl⟩ : ∃ z : Nat, vz = (z : Int) := ⟨vz.toNat, by omega⟩
      refine t_callV C hT (s_X6_bit _ hC0 (i := i) (y := y) (z := z) (by omega) hy_y (by omega)) (RcV.ob (ci := 8) C rfl hC0.o) rfl ml_RL_51 im_yX6_bit se_RX6_yX6_bit in_RX6 co_yX6_bit hd_X6_bit rfl ⟨by omega, by omega⟩ rfl (Nat.le_of_ble_eq_true rfl) ⟨by omega, by omega⟩ dL_bit_6 (fun v uu hp => ?_)
      obtain ⟨z0, hzv⟩ : ∃ z : Int, v = some (iI z) := ⟨_, hp.1.choose_spec.1⟩
      subst hzv
      have hz01 : ∃ zz : Int, iI z0 = iI zz ∧ (zz = 0 ∨ zz = 1) := by
        obtain ⟨x9, h9, h10⟩ := hp.1
        exact ⟨x9, Option.some.inj h9, h10.1⟩
      obtain ⟨zz, hzz, hz01⟩ := hz01
      have hz12 : -2147483648 ≤ zz ∧ zz < 2147483648 := by omega
      rw [hzz] at hp ⊢
      have hko : KO τ w uu := hp.2.2
      have hO2 := hko.2 o _ (Or.inr hτ) hO
      rcases hz01 with q | q
      · subst q
        refine g_if_eq (tgt := 16) C dL_bit_9 (by decide) (by omega) (fun _ => ?_) (fun h => (h rfl).elim)
        refine g_lconst (z := 0) C dL_bit_16 (by decide) ?_
        refine g_putN (ci := 9) C rfl inTX7 tyX7 tyX7_ok nmX7 0 (by decide) hH.2.2.2.2.2.2.1 rfl rfl hO2 (Nat.le_of_ble_eq_true rfl) rfl rfl dL_bit_17 ?_
        refine g_goto (tgt := 31) C dL_bit_20 (by decide) ?_
        refine g_iconst C dL_bit_31 ?_
        exact g_ireturn C hQ dL_bit_32 (by omega) (by omega) (Or.inr (Or.inr ⟨hc1, hc2, rfl, i, z, rfl, rfl, _, uu, s0, hz12, hp, rfl⟩))
      · subst q
        refine g_if_eq (tgt := 16) C dL_bit_9 (by decide) (by omega) (fun h => absurd h (by decide)) (fun _ => ?_)
        refine g_lconst (z := 1) C dL_bit_12 (by decide) ?_
        refine g_goto (tgt := 17) C dL_bit_13 (by decide) ?_
        refine g_putN (ci := 9) C rfl inTX7 tyX7 tyX7_ok nmX7 0 (by decide) hH.2.2.2.2.2.2.1 rfl rfl hO2 (Nat.le_of_ble_eq_true rfl) rfl rfl dL_bit_17 ?_
        refine g_goto (tgt := 31) C dL_bit_20 (by decide) ?_
        refine g_iconst C dL_bit_31 ?_
        exact g_ireturn C hQ dL_bit_32 (by omega) (by omega) (Or.inr (Or.inr ⟨hc1, hc2, rfl, i, z, rfl, rfl, _, uu, s0, hz12, hp, rfl⟩))
    · refine x_tryV C hT hH (x_X6_bit_IA _ hls (a0 := ad 100) (p := vi) (q := y) (r := vz) h_vi h_vz hc1 hc2) (RcV.ob (ci := 8) C rfl hC0.o) rfl ml_RL_51 im_yX6_bit se_RX6_yX6_bit in_RX6 co_yX6_bit hd_X6_bit rfl ⟨by omega, by omega⟩ rfl (Nat.le_of_ble_eq_true rfl) ⟨by omega, by omega⟩ dL_bit_6 [⟨0, 20, 23, 19⟩] ⟨0, 20, 27, 21⟩ [] (by rw [htab]; rfl) (fun z hz => by
          rw [List.mem_singleton.mp hz]
          exact Or.inr ⟨by decide, sIO, kl_RL_19, hH.2.2.1⟩) (by decide) (by decide) kl_RL_21 hH.2.1 (fun q w2 hp => ?_)
      refine g_astore C dL_bit_27 (by decide) rfl ?_
      refine g_iconst C dL_bit_29 ?_
      exact g_ireturn C hQ dL_bit_30 (by omega) (by omega) (Or.inr (Or.inl ⟨hc1, hc2, rfl, hp.1, hp.2⟩))
  · refine x_tryV C hT hH (x_X6_bit_IO _ hls (a0 := ad 100) (p := vi) (q := y) (r := vz) h_vi h_vz  hc1) (RcV.ob (ci := 8) C rfl hC0.o) rfl ml_RL_51 im_yX6_bit se_RX6_yX6_bit in_RX6 co_yX6_bit hd_X6_bit rfl ⟨by omega, by omega⟩ rfl (Nat.le_of_ble_eq_true rfl) ⟨by omega, by omega⟩ dL_bit_6 [] ⟨0, 20, 23, 19⟩ [⟨0, 20, 27, 21⟩] (by rw [htab]; rfl) (fun z hz => nomatch hz) (by decide) (by decide) kl_RL_19 hH.1 (fun q w2 hp => ?_)
    refine g_astore C dL_bit_23 (by decide) rfl ?_
    refine g_iconst C dL_bit_25 ?_
    exact g_ireturn C hQ dL_bit_26 (by omega) (by omega) (Or.inl ⟨hc1, rfl, hp.1, hp.2⟩)
set_option maxHeartbeats 4000000 in
set_option maxRecDepth 100000 in
theorem w_L_isRead (l : Launch) {K : KC} {E : GE} {w : Wd} (hfl : l.stackTraces = false) {τ ad : Nat → Nat} {bs ss : Nat → Int} {pb : Nat → PT} {P Q : Nat → Nat} {ct : Nat → Int} (hC0 : CS τ ad w bs ss pb P Q ct) {o : Nat} (hτ : τ o = 199) {n0 : Int} {s0 : Value} (hO : w.2 o = some (true, eO 9 [jJ n0, s0])) {vi : Int} (h_vi : -2147483648 ≤ vi ∧ vi < 2147483648) {z : Int} (h_z : -2147483648 ≤ z ∧ z < 2147483648) : Th K E l yL_isRead cL_isRead 5 (some .int) [(0, 18, 21, 19), (0, 18, 25, 21)] 10 (120) (4200) [.ref (ad 100), iI vi, iI z, .ref o] w (fun r' w' => (¬ ((0 ≤ vi ∧ vi ≤ 2)) ∧ r' = some (iI 1) ∧ w.1 ≤ w'.1 ∧ w'.2 = w.2) ∨ (((0 ≤ vi ∧ vi ≤ 2)) ∧ ¬ ((z = 0 ∨ (2 ≤ z ∧ z ≤ 16))) ∧ r' = some (iI 2) ∧ w.1 ≤ w'.1 ∧ w'.2 = w.2) ∨ (((0 ≤ vi ∧ vi ≤ 2)) ∧ ((z = 0 ∨ (2 ≤ z ∧ z ≤ 16))) ∧ r' = some (iI 0) ∧ ∃ (i : Nat), vi = (i : Int) ∧ ∃ (zz : Int) (uu : Wd) (sv : Value), (-2147483648 ≤ zz ∧ zz < 2147483648) ∧ ((∃ x : Int, (some (iI zz)) = some (iI x) ∧ (x = 0 ∨ x = 1)) ∧ CS τ ad uu (bs) (ss) (pb) (P) (Q) (ct) ∧ KO τ w uu) ∧ w' = wset uu o (true, eO 9 [jJ zz, sv]))) := by
  refine th_intro [some (.ref (ad 100)), some (iI vi), some (iI z), some (.ref o), none] rfl (Nat.le_of_ble_eq_true rfl) pn_L ?_
  intro X C hT hH hRm hl htab hQ
  obtain ⟨hRf, hRl, hRc, hRs⟩ := hRm
  have hls : (xl X).stackTraces = false := by rw [hl]; exact hfl
  refine g_wf (fun hwf => ?_)
  refine g_aload_n C dL_isRead_0 rfl ?_
  refine g_aload_n C dL_isRead_1 rfl ?_
  refine g_iload_n C dL_isRead_2 rfl ?_
  refine g_iload_n C dL_isRead_3 rfl ?_
  by_cases hc1 : (0 ≤ vi ∧ vi ≤ 2)
  · by_cases hc2 : (z = 0 ∨ (2 ≤ z ∧ z ≤ 16))
    · obtain ⟨i, rfl⟩ : ∃ i : Nat, vi = (i : Int) := ⟨vi.toNat, by omega⟩
      refine t_callV C hT (s_X6_isRead _ hC0 (i := i) (z := z) (by omega) (by omega)) (RcV.ob (ci := 8) C rfl hC0.o) rfl ml_RL_55 im_yX6_isRead se_RX6_yX6_isRead in_RX6 co_yX6_isRead hd_X6_isRead rfl ⟨by omega, by omega⟩ rfl (Nat.le_of_ble_eq_true rfl) ⟨by omega, by omega⟩ dL_isRead_4 (fun v uu hp => ?_)
      obtain ⟨z0, hzv⟩ : ∃ z : Int, v = some (iI z) := ⟨_, hp.1.choose_spec.1⟩
      subst hzv
      have hz01 : ∃ zz : Int, iI z0 = iI zz ∧ (zz = 0 ∨ zz = 1) := by
        obtain ⟨x9, h9, h10⟩ := hp.1
        exact ⟨x9, Option.some.inj h9, h10⟩
      obtain ⟨zz, hzz, hz01⟩ := hz01
      have hz12 : -2147483648 ≤ zz ∧ zz < 2147483648 := by omega
      rw [hzz] at hp ⊢
      have hko : KO τ w uu := hp.2.2
      have hO2 := hko.2 o _ (Or.inr hτ) hO
      rcases hz01 with q | q
      · subst q
        refine g_if_eq (tgt := 14) C dL_isRead_7 (by decide) (by omega) (fun _ => ?_) (fun h => (h rfl).elim)
        refine g_lconst (z := 0) C dL_isRead_14 (by decide) ?_
        refine g_putN (ci := 9) C rfl inTX7 tyX7 tyX7_ok nmX7 0 (by decide) hH.2.2.2.2.2.2.1 rfl rfl hO2 (Nat.le_of_ble_eq_true rfl) rfl rfl dL_isRead_15 ?_
        refine g_goto (tgt := 29) C dL_isRead_18 (by decide) ?_
        refine g_iconst C dL_isRead_29 ?_
        exact g_ireturn C hQ dL_isRead_30 (by omega) (by omega) (Or.inr (Or.inr ⟨hc1, hc2, rfl, i, rfl, _, uu, s0, hz12, hp, rfl⟩))
      · subst q
        refine g_if_eq (tgt := 14) C dL_isRead_7 (by decide) (by omega) (fun h => absurd h (by decide)) (fun _ => ?_)
        refine g_lconst (z := 1) C dL_isRead_10 (by decide) ?_
        refine g_goto (tgt := 15) C dL_isRead_11 (by decide) ?_
        refine g_putN (ci := 9) C rfl inTX7 tyX7 tyX7_ok nmX7 0 (by decide) hH.2.2.2.2.2.2.1 rfl rfl hO2 (Nat.le_of_ble_eq_true rfl) rfl rfl dL_isRead_15 ?_
        refine g_goto (tgt := 29) C dL_isRead_18 (by decide) ?_
        refine g_iconst C dL_isRead_29 ?_
        exact g_ireturn C hQ dL_isRead_30 (by omega) (by omega) (Or.inr (Or.inr ⟨hc1, hc2, rfl, i, rfl, _, uu, s0, hz12, hp, rfl⟩))
    · refine x_tryV C hT hH (x_X6_isRead_IA _ hls (a0 := ad 100) (p := vi) (q := z) h_vi h_z hc1 (by omega) (by omega)) (RcV.ob (ci := 8) C rfl hC0.o) rfl ml_RL_55 im_yX6_isRead se_RX6_yX6_isRead in_RX6 co_yX6_isRead hd_X6_isRead rfl ⟨by omega, by omega⟩ rfl (Nat.le_of_ble_eq_true rfl) ⟨by omega, by omega⟩ dL_isRead_4 [⟨0, 18, 21, 19⟩] ⟨0, 18, 25, 21⟩ [] (by rw [htab]; rfl) (fun z hz => by
          rw [List.mem_singleton.mp hz]
          exact Or.inr ⟨by decide, sIO, kl_RL_19, hH.2.2.1⟩) (by decide) (by decide) kl_RL_21 hH.2.1 (fun q w2 hp => ?_)
      refine g_astore C dL_isRead_25 (by decide) rfl ?_
      refine g_iconst C dL_isRead_27 ?_
      exact g_ireturn C hQ dL_isRead_28 (by omega) (by omega) (Or.inr (Or.inl ⟨hc1, hc2, rfl, hp.1, hp.2⟩))
  · refine x_tryV C hT hH (x_X6_isRead_IO _ hls (a0 := ad 100) (p := vi) (q := z) h_vi h_z  hc1) (RcV.ob (ci := 8) C rfl hC0.o) rfl ml_RL_55 im_yX6_isRead se_RX6_yX6_isRead in_RX6 co_yX6_isRead hd_X6_isRead rfl ⟨by omega, by omega⟩ rfl (Nat.le_of_ble_eq_true rfl) ⟨by omega, by omega⟩ dL_isRead_4 [] ⟨0, 18, 21, 19⟩ [⟨0, 18, 25, 21⟩] (by rw [htab]; rfl) (fun z hz => nomatch hz) (by decide) (by decide) kl_RL_19 hH.1 (fun q w2 hp => ?_)
    refine g_astore C dL_isRead_21 (by decide) rfl ?_
    refine g_iconst C dL_isRead_23 ?_
    exact g_ireturn C hQ dL_isRead_24 (by omega) (by omega) (Or.inl ⟨hc1, rfl, hp.1, hp.2⟩)
set_option maxHeartbeats 4000000 in
set_option maxRecDepth 100000 in
theorem w_L_isNear (l : Launch) {K : KC} {E : GE} {w : Wd} (hfl : l.stackTraces = false) {τ ad : Nat → Nat} {bs ss : Nat → Int} {pb : Nat → PT} {P Q : Nat → Nat} {ct : Nat → Int} (hC0 : CS τ ad w bs ss pb P Q ct) {o : Nat} (hτ : τ o = 199) {n0 : Int} {s0 : Value} (hO : w.2 o = some (true, eO 9 [jJ n0, s0])) {vi : Int} (h_vi : -2147483648 ≤ vi ∧ vi < 2147483648) {z : Int} (h_z : -2147483648 ≤ z ∧ z < 2147483648) : Th K E l yL_isNear cL_isNear 5 (some .int) [(0, 18, 21, 19), (0, 18, 25, 21)] 10 (1) (6) [.ref (ad 100), iI vi, iI z, .ref o] w (fun r' w' => (¬ ((0 ≤ vi ∧ vi ≤ 2)) ∧ r' = some (iI 1) ∧ w.1 ≤ w'.1 ∧ w'.2 = w.2) ∨ (((0 ≤ vi ∧ vi ≤ 2)) ∧ ¬ ((1 ≤ z ∧ z ≤ 3)) ∧ r' = some (iI 2) ∧ w.1 ≤ w'.1 ∧ w'.2 = w.2) ∨ (((0 ≤ vi ∧ vi ≤ 2)) ∧ ((1 ≤ z ∧ z ≤ 3)) ∧ r' = some (iI 0) ∧ ∃ (i : Nat), vi = (i : Int) ∧ ∃ (zz : Int) (uu : Wd) (sv : Value), (-2147483648 ≤ zz ∧ zz < 2147483648) ∧ ((∃ x : Int, (some (iI zz)) = some (iI x) ∧ (x = 0 ∨ x = 1) ∧ ∃ r, RT (bs i) r ∧ (x = 1 ∧ nearP (bs i) r z (ss i).toNat ∨ x = 0 ∧ ¬ nearP (bs i) r z (ss i).toNat)) ∧ CS τ ad uu (bs) (ss) (pb) (P) (Q) (ct) ∧ KO τ w uu) ∧ w' = wset uu o (true, eO 9 [jJ zz, sv]))) := by
  refine th_intro [some (.ref (ad 100)), some (iI vi), some (iI z), some (.ref o), none] rfl (Nat.le_of_ble_eq_true rfl) pn_L ?_
  intro X C hT hH hRm hl htab hQ
  obtain ⟨hRf, hRl, hRc, hRs⟩ := hRm
  have hls : (xl X).stackTraces = false := by rw [hl]; exact hfl
  refine g_wf (fun hwf => ?_)
  refine g_aload_n C dL_isNear_0 rfl ?_
  refine g_aload_n C dL_isNear_1 rfl ?_
  refine g_iload_n C dL_isNear_2 rfl ?_
  refine g_iload_n C dL_isNear_3 rfl ?_
  by_cases hc1 : (0 ≤ vi ∧ vi ≤ 2)
  · by_cases hc2 : (1 ≤ z ∧ z ≤ 3)
    · obtain ⟨i, rfl⟩ : ∃ i : Nat, vi = (i : Int) := ⟨vi.toNat, by omega⟩
      refine t_callV C hT (s_X6_isNear _ hC0 (i := i) (z := z) (by omega) (by omega)) (RcV.ob (ci := 8) C rfl hC0.o) rfl ml_RL_59 im_yX6_isNear se_RX6_yX6_isNear in_RX6 co_yX6_isNear hd_X6_isNear rfl ⟨by omega, by omega⟩ rfl (Nat.le_of_ble_eq_true rfl) ⟨by omega, by omega⟩ dL_isNear_4 (fun v uu hp => ?_)
      obtain ⟨z0, hzv⟩ : ∃ z : Int, v = some (iI z) := ⟨_, hp.1.choose_spec.1⟩
      subst hzv
      have hz01 : ∃ zz : Int, iI z0 = iI zz ∧ (zz = 0 ∨ zz = 1) := by
        obtain ⟨x9, h9, h10⟩ := hp.1
        exact ⟨x9, Option.some.inj h9, h10.1⟩
      obtain ⟨zz, hzz, hz01⟩ := hz01
      have hz12 : -2147483648 ≤ zz ∧ zz < 2147483648 := by omega
      rw [hzz] at hp ⊢
      have hko : KO τ w uu := hp.2.2
      have hO2 := hko.2 o _ (Or.inr hτ) hO
      rcases hz01 with q | q
      · subst q
        refine g_if_eq (tgt := 14) C dL_isNear_7 (by decide) (by omega) (fun _ => ?_) (fun h => (h rfl).elim)
        refine g_lconst (z := 0) C dL_isNear_14 (by decide) ?_
        refine g_putN (ci := 9) C rfl inTX7 tyX7 tyX7_ok nmX7 0 (by decide) hH.2.2.2.2.2.2.1 rfl rfl hO2 (Nat.le_of_ble_eq_true rfl) rfl rfl dL_isNear_15 ?_
        refine g_goto (tgt := 29) C dL_isNear_18 (by decide) ?_
        refine g_iconst C dL_isNear_29 ?_
        exact g_ireturn C hQ dL_isNear_30 (by omega) (by omega) (Or.inr (Or.inr ⟨hc1, hc2, rfl, i, rfl, _, uu, s0, hz12, hp, rfl⟩))
      · subst q
        refine g_if_eq (tgt := 14) C dL_isNear_7 (by decide) (by omega) (fun h => absurd h (by decide)) (fun _ => ?_)
        refine g_lconst (z := 1) C dL_isNear_10 (by decide) ?_
        refine g_goto (tgt := 15) C dL_isNear_11 (by decide) ?_
        refine g_putN (ci := 9) C rfl inTX7 tyX7 tyX7_ok nmX7 0 (by decide) hH.2.2.2.2.2.2.1 rfl rfl hO2 (Nat.le_of_ble_eq_true rfl) rfl rfl dL_isNear_15 ?_
        refine g_goto (tgt := 29) C dL_isNear_18 (by decide) ?_
        refine g_iconst C dL_isNear_29 ?_
        exact g_ireturn C hQ dL_isNear_30 (by omega) (by omega) (Or.inr (Or.inr ⟨hc1, hc2, rfl, i, rfl, _, uu, s0, hz12, hp, rfl⟩))
    · refine x_tryV C hT hH (x_X6_isNear_IA _ hls (a0 := ad 100) (p := vi) (q := z) h_vi h_z hc1 hc2) (RcV.ob (ci := 8) C rfl hC0.o) rfl ml_RL_59 im_yX6_isNear se_RX6_yX6_isNear in_RX6 co_yX6_isNear hd_X6_isNear rfl ⟨by omega, by omega⟩ rfl (Nat.le_of_ble_eq_true rfl) ⟨by omega, by omega⟩ dL_isNear_4 [⟨0, 18, 21, 19⟩] ⟨0, 18, 25, 21⟩ [] (by rw [htab]; rfl) (fun z hz => by
          rw [List.mem_singleton.mp hz]
          exact Or.inr ⟨by decide, sIO, kl_RL_19, hH.2.2.1⟩) (by decide) (by decide) kl_RL_21 hH.2.1 (fun q w2 hp => ?_)
      refine g_astore C dL_isNear_25 (by decide) rfl ?_
      refine g_iconst C dL_isNear_27 ?_
      exact g_ireturn C hQ dL_isNear_28 (by omega) (by omega) (Or.inr (Or.inl ⟨hc1, hc2, rfl, hp.1, hp.2⟩))
  · refine x_tryV C hT hH (x_X6_isNear_IO _ hls (a0 := ad 100) (p := vi) (q := z) h_vi h_z  hc1) (RcV.ob (ci := 8) C rfl hC0.o) rfl ml_RL_59 im_yX6_isNear se_RX6_yX6_isNear in_RX6 co_yX6_isNear hd_X6_isNear rfl ⟨by omega, by omega⟩ rfl (Nat.le_of_ble_eq_true rfl) ⟨by omega, by omega⟩ dL_isNear_4 [] ⟨0, 18, 21, 19⟩ [⟨0, 18, 25, 21⟩] (by rw [htab]; rfl) (fun z hz => nomatch hz) (by decide) (by decide) kl_RL_19 hH.1 (fun q w2 hp => ?_)
    refine g_astore C dL_isNear_21 (by decide) rfl ?_
    refine g_iconst C dL_isNear_23 ?_
    exact g_ireturn C hQ dL_isNear_24 (by omega) (by omega) (Or.inl ⟨hc1, rfl, hp.1, hp.2⟩)
set_option maxHeartbeats 4000000 in
set_option maxRecDepth 100000 in
theorem w_L_decimals (l : Launch) {K : KC} {E : GE} {w : Wd} (hfl : l.stackTraces = false) {τ ad : Nat → Nat} {bs ss : Nat → Int} {pb : Nat → PT} {P Q : Nat → Nat} {ct : Nat → Int} (hC0 : CS τ ad w bs ss pb P Q ct) {o : Nat} (hτ : τ o = 199) {n0 : Int} {s0 : Value} (hO : w.2 o = some (true, eO 9 [jJ n0, s0])) {vi : Int} (h_vi : -2147483648 ≤ vi ∧ vi < 2147483648) {vz : Int} (h_vz : -2147483648 ≤ vz ∧ vz < 2147483648) : Th K E l yL_decimals cL_decimals 5 (some .int) [(0, 10, 13, 19), (0, 10, 17, 21)] 10 (61) (2600) [.ref (ad 100), iI vi, iI vz, .ref o] w (fun r' w' => (¬ ((0 ≤ vi ∧ vi ≤ 2)) ∧ r' = some (iI 1) ∧ w.1 ≤ w'.1 ∧ w'.2 = w.2) ∨ (((0 ≤ vi ∧ vi ≤ 2)) ∧ ¬ ((0 ≤ vz ∧ vz ≤ 16)) ∧ r' = some (iI 2) ∧ w.1 ≤ w'.1 ∧ w'.2 = w.2) ∨ (((0 ≤ vi ∧ vi ≤ 2)) ∧ ((0 ≤ vz ∧ vz ≤ 16)) ∧ r' = some (iI 0) ∧ ∃ (i : Nat) (z : Nat), vi = (i : Int) ∧ vz = (z : Int) ∧ ∃ (qq : Nat) (uu : Wd) (n : Int), ((∃ s : Nat, (some (Value.ref qq)) = some (Value.ref s)) ∧ CS τ ad uu (bs) (ss) (pb) (P) (Q) (ct) ∧ KO τ w uu) ∧ w' = wset uu o (true, eO 9 [jJ n, .ref qq]))) := by
  refine th_intro [some (.ref (ad 100)), some (iI vi), some (iI vz), some (.ref o), none] rfl (Nat.le_of_ble_eq_true rfl) pn_L ?_
  intro X C hT hH hRm hl htab hQ
  obtain ⟨hRf, hRl, hRc, hRs⟩ := hRm
  have hls : (xl X).stackTraces = false := by rw [hl]; exact hfl
  refine g_wf (fun hwf => ?_)
  refine g_aload_n C dL_decimals_0 rfl ?_
  refine g_aload_n C dL_decimals_1 rfl ?_
  refine g_iload_n C dL_decimals_2 rfl ?_
  refine g_iload_n C dL_decimals_3 rfl ?_
  by_cases hc1 : (0 ≤ vi ∧ vi ≤ 2)
  · by_cases hc2 : (0 ≤ vz ∧ vz ≤ 16)
    · obtain ⟨i, rfl⟩ : ∃ i : Nat, vi = (i : Int) := ⟨vi.toNat, by omega⟩
      obtain ⟨z, rfl⟩ : ∃ z : Nat, vz = (z : Int) := ⟨vz.toNat, by omega⟩
      refine t_callV C hT (s_X6_decimals _ hC0 (i := i) (z := z) (by omega) (by omega)) (RcV.ob (ci := 8) C rfl hC0.o) rfl ml_RL_62 im_yX6_decimals se_RX6_yX6_decimals in_RX6 co_yX6_decimals hd_X6_decimals rfl ⟨by omega, by omega⟩ rfl (Nat.le_of_ble_eq_true rfl) ⟨by omega, by omega⟩ dL_decimals_4 (fun v uu hp => ?_)
      obtain ⟨qq, hzv⟩ : ∃ q : Nat, v = some (.ref q) := hp.1
      subst hzv
      have hko : KO τ w uu := hp.2.2
      have hO2 := hko.2 o _ (Or.inr hτ) hO
      refine g_putN (ci := 9) C rfl inTX7 tyX7 tyX7_ok nmX7 1 (by decide) hH.2.2.2.2.2.2.2 rfl rfl hO2 (Nat.le_of_ble_eq_true rfl) rfl rfl dL_decimals_7 ?_
      refine g_goto (tgt := 21) C dL_decimals_10 (by decide) ?_
      refine g_iconst C dL_decimals_21 ?_
      exact g_ireturn C hQ dL_decimals_22 (by omega) (by omega) (Or.inr (Or.inr ⟨hc1, hc2, rfl, i, z, rfl, rfl, qq, uu, _, hp, rfl⟩))
    · refine x_tryV C hT hH (x_X6_decimals_IA _ hls (a0 := ad 100) (p := vi) (q := vz) h_vi h_vz hc1 hc2) (RcV.ob (ci := 8) C rfl hC0.o) rfl ml_RL_62 im_yX6_decimals se_RX6_yX6_decimals in_RX6 co_yX6_decimals hd_X6_decimals rfl ⟨by omega, by omega⟩ rfl (Nat.le_of_ble_eq_true rfl) ⟨by omega, by omega⟩ dL_decimals_4 [⟨0, 10, 13, 19⟩] ⟨0, 10, 17, 21⟩ [] (by rw [htab]; rfl) (fun z hz => by
          rw [List.mem_singleton.mp hz]
          exact Or.inr ⟨by decide, sIO, kl_RL_19, hH.2.2.1⟩) (by decide) (by decide) kl_RL_21 hH.2.1 (fun q w2 hp => ?_)
      refine g_astore C dL_decimals_17 (by decide) rfl ?_
      refine g_iconst C dL_decimals_19 ?_
      exact g_ireturn C hQ dL_decimals_20 (by omega) (by omega) (Or.inr (Or.inl ⟨hc1, hc2, rfl, hp.1, hp.2⟩))
  · refine x_tryV C hT hH (x_X6_decimals_IO _ hls (a0 := ad 100) (p := vi) (q := vz) h_vi h_vz  hc1) (RcV.ob (ci := 8) C rfl hC0.o) rfl ml_RL_62 im_yX6_decimals se_RX6_yX6_decimals in_RX6 co_yX6_decimals hd_X6_decimals rfl ⟨by omega, by omega⟩ rfl (Nat.le_of_ble_eq_true rfl) ⟨by omega, by omega⟩ dL_decimals_4 [] ⟨0, 10, 13, 19⟩ [⟨0, 10, 17, 21⟩] (by rw [htab]; rfl) (fun z hz => nomatch hz) (by decide) (by decide) kl_RL_19 hH.1 (fun q w2 hp => ?_)
    refine g_astore C dL_decimals_13 (by decide) rfl ?_
    refine g_iconst C dL_decimals_15 ?_
    exact g_ireturn C hQ dL_decimals_16 (by omega) (by omega) (Or.inl ⟨hc1, rfl, hp.1, hp.2⟩)
set_option maxHeartbeats 4000000 in
set_option maxRecDepth 100000 in
theorem w_L_alike (l : Launch) {K : KC} {E : GE} {w : Wd} (hfl : l.stackTraces = false) {τ ad : Nat → Nat} {bs ss : Nat → Int} {pb : Nat → PT} {P Q : Nat → Nat} {ct : Nat → Int} (hC0 : CS τ ad w bs ss pb P Q ct) {o : Nat} (hτ : τ o = 199) {n0 : Int} {s0 : Value} (hO : w.2 o = some (true, eO 9 [jJ n0, s0])) {vi : Int} (h_vi : -2147483648 ≤ vi ∧ vi < 2147483648) : Th K E l yL_alike cL_alike 4 (some .int) [(0, 10, 13, 19)] 10 (1) (6) [.ref (ad 100), iI vi, .ref o] w (fun r' w' => (¬ ((0 ≤ vi ∧ vi ≤ 2)) ∧ r' = some (iI 1) ∧ w.1 ≤ w'.1 ∧ w'.2 = w.2) ∨ (((0 ≤ vi ∧ vi ≤ 2)) ∧ r' = some (iI 0) ∧ ∃ (i : Nat), vi = (i : Int) ∧ ∃ (zz : Int) (uu : Wd) (sv : Value), (-2147483648 ≤ zz ∧ zz < 2147483648) ∧ ((∃ x : Int, (some (iI zz)) = some (iI x) ∧ ∃ r, RT (bs i) r ∧ ∃ n : Nat, n ≤ 17 ∧ x = (n : Int) - 1 ∧ alkP (bs i) (pq (bs i) r 1 r (ss i).toNat).1 (pq (bs i) r 0 1 (ss i).toNat).1 n) ∧ CS τ ad uu (bs) (ss) (pb) (P) (Q) (ct) ∧ KO τ w uu) ∧ w' = wset uu o (true, eO 9 [jJ zz, sv]))) := by
  refine th_intro [some (.ref (ad 100)), some (iI vi), some (.ref o), none] rfl (Nat.le_of_ble_eq_true rfl) pn_L ?_
  intro X C hT hH hRm hl htab hQ
  obtain ⟨hRf, hRl, hRc, hRs⟩ := hRm
  have hls : (xl X).stackTraces = false := by rw [hl]; exact hfl
  refine g_wf (fun hwf => ?_)
  refine g_aload_n C dL_alike_0 rfl ?_
  refine g_aload_n C dL_alike_1 rfl ?_
  refine g_iload_n C dL_alike_2 rfl ?_
  by_cases hc1 : (0 ≤ vi ∧ vi ≤ 2)
  · obtain ⟨i, rfl⟩ : ∃ i : Nat, vi = (i : Int) := ⟨vi.toNat, by omega⟩
    refine t_callV C hT (s_X6_alike _ hC0 (i := i) (by omega)) (RcV.ob (ci := 8) C rfl hC0.o) rfl ml_RL_66 im_yX6_alike se_RX6_yX6_alike in_RX6 co_yX6_alike hd_X6_alike rfl ⟨by omega, by omega⟩ rfl (Nat.le_of_ble_eq_true rfl) ⟨by omega, by omega⟩ dL_alike_3 (fun v uu hp => ?_)
    obtain ⟨z0, hzv⟩ : ∃ z : Int, v = some (iI z) := ⟨_, hp.1.choose_spec.1⟩
    subst hzv
    obtain ⟨zz, hzz, hz1, hz2⟩ := gen32 (Int32.ofInt z0)
    rw [show iI z0 = iI zz from congrArg Value.int hzz] at hp ⊢
    have hz12 : -2147483648 ≤ zz ∧ zz < 2147483648 := ⟨hz1, hz2⟩
    have hko : KO τ w uu := hp.2.2
    have hO2 := hko.2 o _ (Or.inr hτ) hO
    refine g_i2l C dL_alike_6 hz12 ?_
    refine g_putN (ci := 9) C rfl inTX7 tyX7 tyX7_ok nmX7 0 (by decide) hH.2.2.2.2.2.2.1 rfl rfl hO2 (Nat.le_of_ble_eq_true rfl) rfl rfl dL_alike_7 ?_
    refine g_goto (tgt := 16) C dL_alike_10 (by decide) ?_
    refine g_iconst C dL_alike_16 ?_
    exact g_ireturn C hQ dL_alike_17 (by omega) (by omega) (Or.inr ⟨hc1, rfl, i, rfl, zz, uu, s0, hz12, hp, rfl⟩)
  · refine x_tryV C hT hH (x_X6_alike_IO _ hls (a0 := ad 100) (p := vi) h_vi  hc1) (RcV.ob (ci := 8) C rfl hC0.o) rfl ml_RL_66 im_yX6_alike se_RX6_yX6_alike in_RX6 co_yX6_alike hd_X6_alike rfl ⟨by omega, by omega⟩ rfl (Nat.le_of_ble_eq_true rfl) ⟨by omega, by omega⟩ dL_alike_3 [] ⟨0, 10, 13, 19⟩ [] (by rw [htab]; rfl) (fun z hz => nomatch hz) (by decide) (by decide) kl_RL_19 hH.1 (fun q w2 hp => ?_)
    refine g_astore_n C dL_alike_13 (by decide) rfl ?_
    refine g_iconst C dL_alike_14 ?_
    exact g_ireturn C hQ dL_alike_15 (by omega) (by omega) (Or.inl ⟨hc1, rfl, hp.1, hp.2⟩)
set_option maxHeartbeats 4000000 in
set_option maxRecDepth 100000 in
theorem w_L_rootText (l : Launch) {K : KC} {E : GE} {w : Wd} (hfl : l.stackTraces = false) {τ ad : Nat → Nat} {bs ss : Nat → Int} {pb : Nat → PT} {P Q : Nat → Nat} {ct : Nat → Int} (hC0 : CS τ ad w bs ss pb P Q ct) {o : Nat} (hτ : τ o = 199) {n0 : Int} {s0 : Value} (hO : w.2 o = some (true, eO 9 [jJ n0, s0])) {b : Int} (h_b : -2147483648 ≤ b ∧ b < 2147483648) {vz : Int} (h_vz : -2147483648 ≤ vz ∧ vz < 2147483648) : Th K E l yL_rootText cL_rootText 5 (some .int) [(0, 10, 13, 21)] 10 (61) (2600) [.ref (ad 100), iI b, iI vz, .ref o] w (fun r' w' => (¬ ((1 ≤ b ∧ b ≤ 99) ∧ (0 ≤ vz ∧ vz ≤ 16)) ∧ r' = some (iI 1) ∧ w.1 ≤ w'.1 ∧ w'.2 = w.2) ∨ (((1 ≤ b ∧ b ≤ 99) ∧ (0 ≤ vz ∧ vz ≤ 16)) ∧ r' = some (iI 0) ∧ ∃ (z : Nat), vz = (z : Int) ∧ ∃ (qq : Nat) (uu : Wd) (n : Int), ((∃ s : Nat, (some (Value.ref qq)) = some (Value.ref s)) ∧ CS τ ad uu (bs) (ss) (pb) (P) (Q) (ct) ∧ KO τ w uu) ∧ w' = wset uu o (true, eO 9 [jJ n, .ref qq]))) := by
  refine th_intro [some (.ref (ad 100)), some (iI b), some (iI vz), some (.ref o), none] rfl (Nat.le_of_ble_eq_true rfl) pn_L ?_
  intro X C hT hH hRm hl htab hQ
  obtain ⟨hRf, hRl, hRc, hRs⟩ := hRm
  have hls : (xl X).stackTraces = false := by rw [hl]; exact hfl
  refine g_wf (fun hwf => ?_)
  refine g_aload_n C dL_rootText_0 rfl ?_
  refine g_aload_n C dL_rootText_1 rfl ?_
  refine g_iload_n C dL_rootText_2 rfl ?_
  refine g_iload_n C dL_rootText_3 rfl ?_
  by_cases hc2 : (1 ≤ b ∧ b ≤ 99) ∧ (0 ≤ vz ∧ vz ≤ 16)
  · obtain ⟨z, rfl⟩ : ∃ z : Nat, vz = (z : Int) := ⟨vz.toNat, by omega⟩
    refine t_callV C hT (s_X6_rootText _ hC0 (b := b) (z := z) (by omega) (by omega)) (RcV.ob (ci := 8) C rfl hC0.o) rfl ml_RL_69 im_yX6_rootText se_RX6_yX6_rootText in_RX6 co_yX6_rootText hd_X6_rootText rfl ⟨by omega, by omega⟩ rfl (Nat.le_of_ble_eq_true rfl) ⟨by omega, by omega⟩ dL_rootText_4 (fun v uu hp => ?_)
    obtain ⟨qq, hzv⟩ : ∃ q : Nat, v = some (.ref q) := hp.1
    subst hzv
    have hko : KO τ w uu := hp.2.2
    have hO2 := hko.2 o _ (Or.inr hτ) hO
    refine g_putN (ci := 9) C rfl inTX7 tyX7 tyX7_ok nmX7 1 (by decide) hH.2.2.2.2.2.2.2 rfl rfl hO2 (Nat.le_of_ble_eq_true rfl) rfl rfl dL_rootText_7 ?_
    refine g_goto (tgt := 17) C dL_rootText_10 (by decide) ?_
    refine g_iconst C dL_rootText_17 ?_
    exact g_ireturn C hQ dL_rootText_18 (by omega) (by omega) (Or.inr ⟨hc2, rfl, z, rfl, qq, uu, _, hp, rfl⟩)
  · refine x_tryV C hT hH (x_X6_rootText_IA _ hls (a0 := ad 100) (p := b) (q := vz) h_b h_vz  hc2) (RcV.ob (ci := 8) C rfl hC0.o) rfl ml_RL_69 im_yX6_rootText se_RX6_yX6_rootText in_RX6 co_yX6_rootText hd_X6_rootText rfl ⟨by omega, by omega⟩ rfl (Nat.le_of_ble_eq_true rfl) ⟨by omega, by omega⟩ dL_rootText_4 [] ⟨0, 10, 13, 21⟩ [] (by rw [htab]; rfl) (fun z hz => nomatch hz) (by decide) (by decide) kl_RL_21 hH.2.1 (fun q w2 hp => ?_)
    refine g_astore C dL_rootText_13 (by decide) rfl ?_
    refine g_iconst C dL_rootText_15 ?_
    exact g_ireturn C hQ dL_rootText_16 (by omega) (by omega) (Or.inl ⟨hc2, rfl, hp.1, hp.2⟩)
set_option maxHeartbeats 4000000 in
set_option maxRecDepth 100000 in
theorem w_L_period (l : Launch) {K : KC} {E : GE} {w : Wd} (hfl : l.stackTraces = false) {τ ad : Nat → Nat} {bs ss : Nat → Int} {pb : Nat → PT} {P Q : Nat → Nat} {ct : Nat → Int} (hC0 : CS τ ad w bs ss pb P Q ct) {o : Nat} (hτ : τ o = 199) {n0 : Int} {s0 : Value} (hO : w.2 o = some (true, eO 9 [jJ n0, s0])) {b : Int} (h_b : -2147483648 ≤ b ∧ b < 2147483648) : Th K E l yL_period cL_period 4 (some .int) [(0, 10, 13, 21)] 10 (1) (6) [.ref (ad 100), iI b, .ref o] w (fun r' w' => (¬ (GB b) ∧ r' = some (iI 1) ∧ w.1 ≤ w'.1 ∧ w'.2 = w.2) ∨ ((GB b) ∧ r' = some (iI 0) ∧ ∃ (zz : Int) (uu : Wd) (sv : Value), (-2147483648 ≤ zz ∧ zz < 2147483648) ∧ (∃ (r : Int) (p : Nat), (some (iI zz)) = some (iI (p : Int)) ∧ RT b r ∧ isPer b r p ∧ CS τ ad uu (bs) (ss) (pb) (P) (Q) (ct) ∧ KO τ w uu) ∧ w' = wset uu o (true, eO 9 [jJ zz, sv]))) := by
  refine th_intro [some (.ref (ad 100)), some (iI b), some (.ref o), none] rfl (Nat.le_of_ble_eq_true rfl) pn_L ?_
  intro X C hT hH hRm hl htab hQ
  obtain ⟨hRf, hRl, hRc, hRs⟩ := hRm
  have hls : (xl X).stackTraces = false := by rw [hl]; exact hfl
  refine g_wf (fun hwf => ?_)
  refine g_aload_n C dL_period_0 rfl ?_
  refine g_aload_n C dL_period_1 rfl ?_
  refine g_iload_n C dL_period_2 rfl ?_
  by_cases hc2 : GB b
  · have hgb_b : GB b := hc2
    refine t_callV C hT (s_X6_period _ hC0 (b := b) hgb_b) (RcV.ob (ci := 8) C rfl hC0.o) rfl ml_RL_72 im_yX6_period se_RX6_yX6_period in_RX6 co_yX6_period hd_X6_period rfl ⟨by omega, by omega⟩ rfl (Nat.le_of_ble_eq_true rfl) ⟨by omega, by omega⟩ dL_period_3 (fun v uu hp => ?_)
    obtain ⟨z0, hzv⟩ : ∃ z : Int, v = some (iI z) := ⟨_, hp.choose_spec.choose_spec.1⟩
    subst hzv
    obtain ⟨zz, hzz, hz1, hz2⟩ := gen32 (Int32.ofInt z0)
    rw [show iI z0 = iI zz from congrArg Value.int hzz] at hp ⊢
    have hz12 : -2147483648 ≤ zz ∧ zz < 2147483648 := ⟨hz1, hz2⟩
    have hko : KO τ w uu := hp.choose_spec.choose_spec.2.2.2.2
    have hO2 := hko.2 o _ (Or.inr hτ) hO
    refine g_i2l C dL_period_6 hz12 ?_
    refine g_putN (ci := 9) C rfl inTX7 tyX7 tyX7_ok nmX7 0 (by decide) hH.2.2.2.2.2.2.1 rfl rfl hO2 (Nat.le_of_ble_eq_true rfl) rfl rfl dL_period_7 ?_
    refine g_goto (tgt := 16) C dL_period_10 (by decide) ?_
    refine g_iconst C dL_period_16 ?_
    exact g_ireturn C hQ dL_period_17 (by omega) (by omega) (Or.inr ⟨hc2, rfl, zz, uu, s0, hz12, hp, rfl⟩)
  · refine x_tryV C hT hH (x_X6_period_IA _ hls (a0 := ad 100) (p := b) h_b  hc2) (RcV.ob (ci := 8) C rfl hC0.o) rfl ml_RL_72 im_yX6_period se_RX6_yX6_period in_RX6 co_yX6_period hd_X6_period rfl ⟨by omega, by omega⟩ rfl (Nat.le_of_ble_eq_true rfl) ⟨by omega, by omega⟩ dL_period_3 [] ⟨0, 10, 13, 21⟩ [] (by rw [htab]; rfl) (fun z hz => nomatch hz) (by decide) (by decide) kl_RL_21 hH.2.1 (fun q w2 hp => ?_)
    refine g_astore_n C dL_period_13 (by decide) rfl ?_
    refine g_iconst C dL_period_14 ?_
    exact g_ireturn C hQ dL_period_15 (by omega) (by omega) (Or.inl ⟨hc2, rfl, hp.1, hp.2⟩)
set_option maxHeartbeats 4000000 in
set_option maxRecDepth 100000 in
theorem w_L_periodText (l : Launch) {K : KC} {E : GE} {w : Wd} (hfl : l.stackTraces = false) {τ ad : Nat → Nat} {bs ss : Nat → Int} {pb : Nat → PT} {P Q : Nat → Nat} {ct : Nat → Int} (hC0 : CS τ ad w bs ss pb P Q ct) {o : Nat} (hτ : τ o = 199) {n0 : Int} {s0 : Value} (hO : w.2 o = some (true, eO 9 [jJ n0, s0])) {b : Int} (h_b : -2147483648 ≤ b ∧ b < 2147483648) : Th K E l yL_periodText cL_periodText 4 (some .int) [(0, 9, 12, 21)] 10 (50) (27000) [.ref (ad 100), iI b, .ref o] w (fun r' w' => (¬ (GB b) ∧ r' = some (iI 1) ∧ w.1 ≤ w'.1 ∧ w'.2 = w.2) ∨ ((GB b) ∧ r' = some (iI 0) ∧ ∃ (qq : Nat) (uu : Wd) (n : Int), ((∃ s : Nat, (some (Value.ref qq)) = some (Value.ref s)) ∧ CS τ ad uu (bs) (ss) (pb) (P) (Q) (ct) ∧ KO τ w uu) ∧ w' = wset uu o (true, eO 9 [jJ n, .ref qq]))) := by
  refine th_intro [some (.ref (ad 100)), some (iI b), some (.ref o), none] rfl (Nat.le_of_ble_eq_true rfl) pn_L ?_
  intro X C hT hH hRm hl htab hQ
  obtain ⟨hRf, hRl, hRc, hRs⟩ := hRm
  have hls : (xl X).stackTraces = false := by rw [hl]; exact hfl
  refine g_wf (fun hwf => ?_)
  refine g_aload_n C dL_periodText_0 rfl ?_
  refine g_aload_n C dL_periodText_1 rfl ?_
  refine g_iload_n C dL_periodText_2 rfl ?_
  by_cases hc2 : GB b
  · have hgb_b : GB b := hc2
    refine t_callV C hT (s_X6_periodText _ hC0 (b := b) hgb_b) (RcV.ob (ci := 8) C rfl hC0.o) rfl ml_RL_75 im_yX6_periodText se_RX6_yX6_periodText in_RX6 co_yX6_periodText hd_X6_periodText rfl ⟨by omega, by omega⟩ rfl (Nat.le_of_ble_eq_true rfl) ⟨by omega, by omega⟩ dL_periodText_3 (fun v uu hp => ?_)
    obtain ⟨qq, hzv⟩ : ∃ q : Nat, v = some (.ref q) := hp.1
    subst hzv
    have hko : KO τ w uu := hp.2.2
    have hO2 := hko.2 o _ (Or.inr hτ) hO
    refine g_putN (ci := 9) C rfl inTX7 tyX7 tyX7_ok nmX7 1 (by decide) hH.2.2.2.2.2.2.2 rfl rfl hO2 (Nat.le_of_ble_eq_true rfl) rfl rfl dL_periodText_6 ?_
    refine g_goto (tgt := 15) C dL_periodText_9 (by decide) ?_
    refine g_iconst C dL_periodText_15 ?_
    exact g_ireturn C hQ dL_periodText_16 (by omega) (by omega) (Or.inr ⟨hc2, rfl, qq, uu, _, hp, rfl⟩)
  · refine x_tryV C hT hH (x_X6_periodText_IA _ hls (a0 := ad 100) (p := b) h_b  hc2) (RcV.ob (ci := 8) C rfl hC0.o) rfl ml_RL_75 im_yX6_periodText se_RX6_yX6_periodText in_RX6 co_yX6_periodText hd_X6_periodText rfl ⟨by omega, by omega⟩ rfl (Nat.le_of_ble_eq_true rfl) ⟨by omega, by omega⟩ dL_periodText_3 [] ⟨0, 9, 12, 21⟩ [] (by rw [htab]; rfl) (fun z hz => nomatch hz) (by decide) (by decide) kl_RL_21 hH.2.1 (fun q w2 hp => ?_)
    refine g_astore_n C dL_periodText_12 (by decide) rfl ?_
    refine g_iconst C dL_periodText_13 ?_
    exact g_ireturn C hQ dL_periodText_14 (by omega) (by omega) (Or.inl ⟨hc2, rfl, hp.1, hp.2⟩)
set_option maxHeartbeats 4000000 in
set_option maxRecDepth 100000 in
theorem w_L_solution (l : Launch) {K : KC} {E : GE} {w : Wd} (hfl : l.stackTraces = false) {τ ad : Nat → Nat} {bs ss : Nat → Int} {pb : Nat → PT} {P Q : Nat → Nat} {ct : Nat → Int} (hC0 : CS τ ad w bs ss pb P Q ct) {o : Nat} (hτ : τ o = 199) {n0 : Int} {s0 : Value} (hO : w.2 o = some (true, eO 9 [jJ n0, s0])) {b : Int} (h_b : -2147483648 ≤ b ∧ b < 2147483648) {y : Int} (hy_y : y = 0 ∨ y = 1) : Th K E l yL_solution cL_solution 5 (some .int) [(0, 10, 13, 21)] 10 (61) (2600) [.ref (ad 100), iI b, iI y, .ref o] w (fun r' w' => (¬ (GB b) ∧ r' = some (iI 1) ∧ w.1 ≤ w'.1 ∧ w'.2 = w.2) ∨ ((GB b) ∧ r' = some (iI 0) ∧ ∃ (qq : Nat) (uu : Wd) (n : Int), ((∃ s : Nat, (some (Value.ref qq)) = some (Value.ref s)) ∧ CS τ ad uu (bs) (ss) (pb) (P) (Q) (ct) ∧ KO τ w uu) ∧ w' = wset uu o (true, eO 9 [jJ n, .ref qq]))) := by
  refine th_intro [some (.ref (ad 100)), some (iI b), some (iI y), some (.ref o), none] rfl (Nat.le_of_ble_eq_true rfl) pn_L ?_
  intro X C hT hH hRm hl htab hQ
  obtain ⟨hRf, hRl, hRc, hRs⟩ := hRm
  have hls : (xl X).stackTraces = false := by rw [hl]; exact hfl
  refine g_wf (fun hwf => ?_)
  refine g_aload_n C dL_solution_0 rfl ?_
  refine g_aload_n C dL_solution_1 rfl ?_
  refine g_iload_n C dL_solution_2 rfl ?_
  refine g_iload_n C dL_solution_3 rfl ?_
  by_cases hc2 : GB b
  · have hgb_b : GB b := hc2
    refine t_callV C hT (s_X6_solution _ hC0 (b := b) (y := y) hgb_b hy_y) (RcV.ob (ci := 8) C rfl hC0.o) rfl ml_RL_79 im_yX6_solution se_RX6_yX6_solution in_RX6 co_yX6_solution hd_X6_solution rfl ⟨by omega, by omega⟩ rfl (Nat.le_of_ble_eq_true rfl) ⟨by omega, by omega⟩ dL_solution_4 (fun v uu hp => ?_)
    obtain ⟨qq, hzv⟩ : ∃ q : Nat, v = some (.ref q) := hp.1
    subst hzv
    have hko : KO τ w uu := hp.2.2
    have hO2 := hko.2 o _ (Or.inr hτ) hO
    refine g_putN (ci := 9) C rfl inTX7 tyX7 tyX7_ok nmX7 1 (by decide) hH.2.2.2.2.2.2.2 rfl rfl hO2 (Nat.le_of_ble_eq_true rfl) rfl rfl dL_solution_7 ?_
    refine g_goto (tgt := 17) C dL_solution_10 (by decide) ?_
    refine g_iconst C dL_solution_17 ?_
    exact g_ireturn C hQ dL_solution_18 (by omega) (by omega) (Or.inr ⟨hc2, rfl, qq, uu, _, hp, rfl⟩)
  · refine x_tryV C hT hH (x_X6_solution_IA _ hls (a0 := ad 100) (p := b) (q := y) h_b  hc2) (RcV.ob (ci := 8) C rfl hC0.o) rfl ml_RL_79 im_yX6_solution se_RX6_yX6_solution in_RX6 co_yX6_solution hd_X6_solution rfl ⟨by omega, by omega⟩ rfl (Nat.le_of_ble_eq_true rfl) ⟨by omega, by omega⟩ dL_solution_4 [] ⟨0, 10, 13, 21⟩ [] (by rw [htab]; rfl) (fun z hz => nomatch hz) (by decide) (by decide) kl_RL_21 hH.2.1 (fun q w2 hp => ?_)
    refine g_astore C dL_solution_13 (by decide) rfl ?_
    refine g_iconst C dL_solution_15 ?_
    exact g_ireturn C hQ dL_solution_16 (by omega) (by omega) (Or.inl ⟨hc2, rfl, hp.1, hp.2⟩)
set_option maxHeartbeats 4000000 in
set_option maxRecDepth 100000 in
theorem w_L_minus (l : Launch) {K : KC} {E : GE} {w : Wd} (hfl : l.stackTraces = false) {τ ad : Nat → Nat} {bs ss : Nat → Int} {pb : Nat → PT} {P Q : Nat → Nat} {ct : Nat → Int} (hC0 : CS τ ad w bs ss pb P Q ct) {o : Nat} (hτ : τ o = 199) {n0 : Int} {s0 : Value} (hO : w.2 o = some (true, eO 9 [jJ n0, s0])) {b : Int} (h_b : -2147483648 ≤ b ∧ b < 2147483648) {y : Int} (hy_y : y = 0 ∨ y = 1) : Th K E l yL_minus cL_minus 5 (some .int) [(0, 10, 13, 21)] 10 (61) (2600) [.ref (ad 100), iI b, iI y, .ref o] w (fun r' w' => (¬ (GB b) ∧ r' = some (iI 1) ∧ w.1 ≤ w'.1 ∧ w'.2 = w.2) ∨ ((GB b) ∧ r' = some (iI 0) ∧ ∃ (qq : Nat) (uu : Wd) (n : Int), ((∃ s : Nat, (some (Value.ref qq)) = some (Value.ref s)) ∧ CS τ ad uu (bs) (ss) (pb) (P) (Q) (ct) ∧ KO τ w uu) ∧ w' = wset uu o (true, eO 9 [jJ n, .ref qq]))) := by
  refine th_intro [some (.ref (ad 100)), some (iI b), some (iI y), some (.ref o), none] rfl (Nat.le_of_ble_eq_true rfl) pn_L ?_
  intro X C hT hH hRm hl htab hQ
  obtain ⟨hRf, hRl, hRc, hRs⟩ := hRm
  have hls : (xl X).stackTraces = false := by rw [hl]; exact hfl
  refine g_wf (fun hwf => ?_)
  refine g_aload_n C dL_minus_0 rfl ?_
  refine g_aload_n C dL_minus_1 rfl ?_
  refine g_iload_n C dL_minus_2 rfl ?_
  refine g_iload_n C dL_minus_3 rfl ?_
  by_cases hc2 : GB b
  · have hgb_b : GB b := hc2
    refine t_callV C hT (s_X6_minus _ hC0 (b := b) (y := y) hgb_b hy_y) (RcV.ob (ci := 8) C rfl hC0.o) rfl ml_RL_83 im_yX6_minus se_RX6_yX6_minus in_RX6 co_yX6_minus hd_X6_minus rfl ⟨by omega, by omega⟩ rfl (Nat.le_of_ble_eq_true rfl) ⟨by omega, by omega⟩ dL_minus_4 (fun v uu hp => ?_)
    obtain ⟨qq, hzv⟩ : ∃ q : Nat, v = some (.ref q) := hp.1
    subst hzv
    have hko : KO τ w uu := hp.2.2
    have hO2 := hko.2 o _ (Or.inr hτ) hO
    refine g_putN (ci := 9) C rfl inTX7 tyX7 tyX7_ok nmX7 1 (by decide) hH.2.2.2.2.2.2.2 rfl rfl hO2 (Nat.le_of_ble_eq_true rfl) rfl rfl dL_minus_7 ?_
    refine g_goto (tgt := 17) C dL_minus_10 (by decide) ?_
    refine g_iconst C dL_minus_17 ?_
    exact g_ireturn C hQ dL_minus_18 (by omega) (by omega) (Or.inr ⟨hc2, rfl, qq, uu, _, hp, rfl⟩)
  · refine x_tryV C hT hH (x_X6_minus_IA _ hls (a0 := ad 100) (p := b) (q := y) h_b  hc2) (RcV.ob (ci := 8) C rfl hC0.o) rfl ml_RL_83 im_yX6_minus se_RX6_yX6_minus in_RX6 co_yX6_minus hd_X6_minus rfl ⟨by omega, by omega⟩ rfl (Nat.le_of_ble_eq_true rfl) ⟨by omega, by omega⟩ dL_minus_4 [] ⟨0, 10, 13, 21⟩ [] (by rw [htab]; rfl) (fun z hz => nomatch hz) (by decide) (by decide) kl_RL_21 hH.2.1 (fun q w2 hp => ?_)
    refine g_astore C dL_minus_13 (by decide) rfl ?_
    refine g_iconst C dL_minus_15 ?_
    exact g_ireturn C hQ dL_minus_16 (by omega) (by omega) (Or.inl ⟨hc2, rfl, hp.1, hp.2⟩)
set_option maxHeartbeats 4000000 in
set_option maxRecDepth 100000 in
theorem w_L_middle (l : Launch) {K : KC} {E : GE} {w : Wd} (hfl : l.stackTraces = false) {τ ad : Nat → Nat} {bs ss : Nat → Int} {pb : Nat → PT} {P Q : Nat → Nat} {ct : Nat → Int} (hC0 : CS τ ad w bs ss pb P Q ct) {o : Nat} (hτ : τ o = 199) {n0 : Int} {s0 : Value} (hO : w.2 o = some (true, eO 9 [jJ n0, s0])) {b : Int} (h_b : -2147483648 ≤ b ∧ b < 2147483648) : Th K E l yL_middle cL_middle 4 (some .int) [(0, 9, 12, 21)] 10 (20) (1000) [.ref (ad 100), iI b, .ref o] w (fun r' w' => (¬ (GB b) ∧ r' = some (iI 1) ∧ w.1 ≤ w'.1 ∧ w'.2 = w.2) ∨ ((GB b) ∧ r' = some (iI 0) ∧ ∃ (qq : Nat) (uu : Wd) (n : Int), ((∃ s : Nat, (some (Value.ref qq)) = some (Value.ref s)) ∧ CS τ ad uu (bs) (ss) (pb) (P) (Q) (ct) ∧ KO τ w uu) ∧ w' = wset uu o (true, eO 9 [jJ n, .ref qq]))) := by
  refine th_intro [some (.ref (ad 100)), some (iI b), some (.ref o), none] rfl (Nat.le_of_ble_eq_true rfl) pn_L ?_
  intro X C hT hH hRm hl htab hQ
  obtain ⟨hRf, hRl, hRc, hRs⟩ := hRm
  have hls : (xl X).stackTraces = false := by rw [hl]; exact hfl
  refine g_wf (fun hwf => ?_)
  refine g_aload_n C dL_middle_0 rfl ?_
  refine g_aload_n C dL_middle_1 rfl ?_
  refine g_iload_n C dL_middle_2 rfl ?_
  by_cases hc2 : GB b
  · have hgb_b : GB b := hc2
    refine t_callV C hT (s_X6_middle _ hC0 (b := b) hgb_b) (RcV.ob (ci := 8) C rfl hC0.o) rfl ml_RL_86 im_yX6_middle se_RX6_yX6_middle in_RX6 co_yX6_middle hd_X6_middle rfl ⟨by omega, by omega⟩ rfl (Nat.le_of_ble_eq_true rfl) ⟨by omega, by omega⟩ dL_middle_3 (fun v uu hp => ?_)
    obtain ⟨qq, hzv⟩ : ∃ q : Nat, v = some (.ref q) := hp.1
    subst hzv
    have hko : KO τ w uu := hp.2.2
    have hO2 := hko.2 o _ (Or.inr hτ) hO
    refine g_putN (ci := 9) C rfl inTX7 tyX7 tyX7_ok nmX7 1 (by decide) hH.2.2.2.2.2.2.2 rfl rfl hO2 (Nat.le_of_ble_eq_true rfl) rfl rfl dL_middle_6 ?_
    refine g_goto (tgt := 15) C dL_middle_9 (by decide) ?_
    refine g_iconst C dL_middle_15 ?_
    exact g_ireturn C hQ dL_middle_16 (by omega) (by omega) (Or.inr ⟨hc2, rfl, qq, uu, _, hp, rfl⟩)
  · refine x_tryV C hT hH (x_X6_middle_IA _ hls (a0 := ad 100) (p := b) h_b  hc2) (RcV.ob (ci := 8) C rfl hC0.o) rfl ml_RL_86 im_yX6_middle se_RX6_yX6_middle in_RX6 co_yX6_middle hd_X6_middle rfl ⟨by omega, by omega⟩ rfl (Nat.le_of_ble_eq_true rfl) ⟨by omega, by omega⟩ dL_middle_3 [] ⟨0, 9, 12, 21⟩ [] (by rw [htab]; rfl) (fun z hz => nomatch hz) (by decide) (by decide) kl_RL_21 hH.2.1 (fun q w2 hp => ?_)
    refine g_astore_n C dL_middle_12 (by decide) rfl ?_
    refine g_iconst C dL_middle_13 ?_
    exact g_ireturn C hQ dL_middle_14 (by omega) (by omega) (Or.inl ⟨hc2, rfl, hp.1, hp.2⟩)
set_option maxHeartbeats 4000000 in
set_option maxRecDepth 100000 in
theorem w_L_put (l : Launch) {K : KC} {E : GE} {w : Wd} (hfl : l.stackTraces = false) {τ ad : Nat → Nat} {bs ss : Nat → Int} {pb : Nat → PT} {P Q : Nat → Nat} {ct : Nat → Int} (hC0 : CS τ ad w bs ss pb P Q ct) {o : Nat} (hτ : τ o = 199) {n0 : Int} {s0 : Value} (hO : w.2 o = some (true, eO 9 [jJ n0, s0])) {vi : Int} (h_vi : -2147483648 ≤ vi ∧ vi < 2147483648) {b : Int} (h_b : -2147483648 ≤ b ∧ b < 2147483648) {x : Int} (h_x : -2147483648 ≤ x ∧ x < 2147483648) {y : Int} (h_y : -2147483648 ≤ y ∧ y < 2147483648) : Th K E l yL_put cL_put 7 (some .int) [(0, 15, 18, 19), (0, 15, 22, 21)] 10 (1) (6) [.ref (ad 100), iI vi, iI b, iI x, iI y, .ref o] w (fun r' w' => (¬ ((0 ≤ vi ∧ vi ≤ 2)) ∧ r' = some (iI 1) ∧ w.1 ≤ w'.1 ∧ w'.2 = w.2) ∨ (((0 ≤ vi ∧ vi ≤ 2)) ∧ ¬ (GB b ∧ (-1000 ≤ x ∧ x ≤ 1000) ∧ (-1000 ≤ y ∧ y ≤ 1000)) ∧ r' = some (iI 2) ∧ w.1 ≤ w'.1 ∧ w'.2 = w.2) ∨ (((0 ≤ vi ∧ vi ≤ 2)) ∧ (GB b ∧ (-1000 ≤ x ∧ x ≤ 1000) ∧ (-1000 ≤ y ∧ y ≤ 1000)) ∧ r' = some (iI 0) ∧ ∃ (i : Nat), vi = (i : Int) ∧ ∃ (zz : Int) (uu : Wd) (sv : Value), (-2147483648 ≤ zz ∧ zz < 2147483648) ∧ (∃ D : PT, (D = (b, x, y)) ∧ ACTP τ ad uu bs ss pb P Q ct i D (sm D) (some (iI zz)) ∧ KO τ w uu) ∧ w' = wset uu o (true, eO 9 [jJ zz, sv]))) := by
  refine th_intro [some (.ref (ad 100)), some (iI vi), some (iI b), some (iI x), some (iI y), some (.ref o), none] rfl (Nat.le_of_ble_eq_true rfl) pn_L ?_
  intro X C hT hH hRm hl htab hQ
  obtain ⟨hRf, hRl, hRc, hRs⟩ := hRm
  have hls : (xl X).stackTraces = false := by rw [hl]; exact hfl
  refine g_wf (fun hwf => ?_)
  refine g_aload C dL_put_0 rfl ?_
  refine g_aload_n C dL_put_2 rfl ?_
  refine g_iload_n C dL_put_3 rfl ?_
  refine g_iload_n C dL_put_4 rfl ?_
  refine g_iload_n C dL_put_5 rfl ?_
  refine g_iload C dL_put_6 rfl ?_
  by_cases hc1 : (0 ≤ vi ∧ vi ≤ 2)
  · by_cases hc2 : GB b ∧ (-1000 ≤ x ∧ x ≤ 1000) ∧ (-1000 ≤ y ∧ y ≤ 1000)
    · obtain ⟨i, rfl⟩ : ∃ i : Nat, vi = (i : Int) := ⟨vi.toNat, by omega⟩
      have hgb_b : GB b := hc2.1
      refine t_callV C hT (s_X6_put _ hC0 (i := i) (b := b) (x := x) (y := y) (by omega) hgb_b (by omega) (by omega)) (RcV.ob (ci := 8) C rfl hC0.o) rfl ml_RL_89 im_yX6_put se_RX6_yX6_put in_RX6 co_yX6_put hd_X6_put rfl ⟨by omega, by omega⟩ rfl (Nat.le_of_ble_eq_true rfl) ⟨by omega, by omega⟩ dL_put_8 (fun v uu hp => ?_)
      obtain ⟨z0, hzv⟩ : ∃ z : Int, v = some (iI z) := act_v hp.choose_spec.2.1
      subst hzv
      obtain ⟨zz, hzz, hz1, hz2⟩ := gen32 (Int32.ofInt z0)
      rw [show iI z0 = iI zz from congrArg Value.int hzz] at hp ⊢
      have hz12 : -2147483648 ≤ zz ∧ zz < 2147483648 := ⟨hz1, hz2⟩
      have hko : KO τ w uu := hp.choose_spec.2.2
      have hO2 := hko.2 o _ (Or.inr hτ) hO
      refine g_i2l C dL_put_11 hz12 ?_
      refine g_putN (ci := 9) C rfl inTX7 tyX7 tyX7_ok nmX7 0 (by decide) hH.2.2.2.2.2.2.1 rfl rfl hO2 (Nat.le_of_ble_eq_true rfl) rfl rfl dL_put_12 ?_
      refine g_goto (tgt := 26) C dL_put_15 (by decide) ?_
      refine g_iconst C dL_put_26 ?_
      exact g_ireturn C hQ dL_put_27 (by omega) (by omega) (Or.inr (Or.inr ⟨hc1, hc2, rfl, i, rfl, zz, uu, s0, hz12, hp, rfl⟩))
    · refine x_tryV C hT hH (x_X6_put_IA _ hls (a0 := ad 100) (p := vi) (q := b) (r := x) (s := y) h_vi h_b h_x h_y hc1 hc2) (RcV.ob (ci := 8) C rfl hC0.o) rfl ml_RL_89 im_yX6_put se_RX6_yX6_put in_RX6 co_yX6_put hd_X6_put rfl ⟨by omega, by omega⟩ rfl (Nat.le_of_ble_eq_true rfl) ⟨by omega, by omega⟩ dL_put_8 [⟨0, 15, 18, 19⟩] ⟨0, 15, 22, 21⟩ [] (by rw [htab]; rfl) (fun z hz => by
          rw [List.mem_singleton.mp hz]
          exact Or.inr ⟨by decide, sIO, kl_RL_19, hH.2.2.1⟩) (by decide) (by decide) kl_RL_21 hH.2.1 (fun q w2 hp => ?_)
      refine g_astore C dL_put_22 (by decide) rfl ?_
      refine g_iconst C dL_put_24 ?_
      exact g_ireturn C hQ dL_put_25 (by omega) (by omega) (Or.inr (Or.inl ⟨hc1, hc2, rfl, hp.1, hp.2⟩))
  · refine x_tryV C hT hH (x_X6_put_IO _ hls (a0 := ad 100) (p := vi) (q := b) (r := x) (s := y) h_vi h_b h_x h_y  hc1) (RcV.ob (ci := 8) C rfl hC0.o) rfl ml_RL_89 im_yX6_put se_RX6_yX6_put in_RX6 co_yX6_put hd_X6_put rfl ⟨by omega, by omega⟩ rfl (Nat.le_of_ble_eq_true rfl) ⟨by omega, by omega⟩ dL_put_8 [] ⟨0, 15, 18, 19⟩ [⟨0, 15, 22, 21⟩] (by rw [htab]; rfl) (fun z hz => nomatch hz) (by decide) (by decide) kl_RL_19 hH.1 (fun q w2 hp => ?_)
    refine g_astore C dL_put_18 (by decide) rfl ?_
    refine g_iconst C dL_put_20 ?_
    exact g_ireturn C hQ dL_put_21 (by omega) (by omega) (Or.inl ⟨hc1, rfl, hp.1, hp.2⟩)
set_option maxHeartbeats 4000000 in
set_option maxRecDepth 100000 in
theorem w_L_take (l : Launch) {K : KC} {E : GE} {w : Wd} (hfl : l.stackTraces = false) {τ ad : Nat → Nat} {bs ss : Nat → Int} {pb : Nat → PT} {P Q : Nat → Nat} {ct : Nat → Int} (hC0 : CS τ ad w bs ss pb P Q ct) {o : Nat} (hτ : τ o = 199) {n0 : Int} {s0 : Value} (hO : w.2 o = some (true, eO 9 [jJ n0, s0])) {vi : Int} (h_vi : -2147483648 ≤ vi ∧ vi < 2147483648) {vk : Int} (h_vk : -2147483648 ≤ vk ∧ vk < 2147483648) : Th K E l yL_take cL_take 5 (some .int) [(0, 11, 14, 19)] 10 (1) (6) [.ref (ad 100), iI vi, iI vk, .ref o] w (fun r' w' => (¬ ((0 ≤ vi ∧ vi ≤ 2) ∧ (0 ≤ vk ∧ vk ≤ 2)) ∧ r' = some (iI 1) ∧ w.1 ≤ w'.1 ∧ w'.2 = w.2) ∨ (((0 ≤ vi ∧ vi ≤ 2) ∧ (0 ≤ vk ∧ vk ≤ 2)) ∧ r' = some (iI 0) ∧ ∃ (i : Nat) (k : Nat), vi = (i : Int) ∧ vk = (k : Int) ∧ ∃ (zz : Int) (uu : Wd) (sv : Value), (-2147483648 ≤ zz ∧ zz < 2147483648) ∧ (∃ D : PT, (∃ r, RT (bs i) r ∧ D = (bs i, (pq (bs i) r 1 r (ss i).toNat).1, (pq (bs i) r 0 1 (ss i).toNat).1)) ∧ ACTP τ ad uu bs ss pb P Q ct k D (sm D) (some (iI zz)) ∧ KO τ w uu) ∧ w' = wset uu o (true, eO 9 [jJ zz, sv]))) := by
  refine th_intro [some (.ref (ad 100)), some (iI vi), some (iI vk), some (.ref o), none] rfl (Nat.le_of_ble_eq_true rfl) pn_L ?_
  intro X C hT hH hRm hl htab hQ
  obtain ⟨hRf, hRl, hRc, hRs⟩ := hRm
  have hls : (xl X).stackTraces = false := by rw [hl]; exact hfl
  refine g_wf (fun hwf => ?_)
  refine g_aload_n C dL_take_0 rfl ?_
  refine g_aload_n C dL_take_1 rfl ?_
  refine g_iload_n C dL_take_2 rfl ?_
  refine g_iload_n C dL_take_3 rfl ?_
  by_cases hc1 : (0 ≤ vi ∧ vi ≤ 2) ∧ (0 ≤ vk ∧ vk ≤ 2)
  · obtain ⟨i, rfl⟩ : ∃ i : Nat, vi = (i : Int) := ⟨vi.toNat, by omega⟩
    obtain ⟨k, rfl⟩ : ∃ k : Nat, vk = (k : Int) := ⟨vk.toNat, by omega⟩
    refine t_callV C hT (s_X6_take _ hC0 (i := i) (k := k) (by omega) (by omega)) (RcV.ob (ci := 8) C rfl hC0.o) rfl ml_RL_93 im_yX6_take se_RX6_yX6_take in_RX6 co_yX6_take hd_X6_take rfl ⟨by omega, by omega⟩ rfl (Nat.le_of_ble_eq_true rfl) ⟨by omega, by omega⟩ dL_take_4 (fun v uu hp => ?_)
    obtain ⟨z0, hzv⟩ : ∃ z : Int, v = some (iI z) := act_v hp.choose_spec.2.1
    subst hzv
    obtain ⟨zz, hzz, hz1, hz2⟩ := gen32 (Int32.ofInt z0)
    rw [show iI z0 = iI zz from congrArg Value.int hzz] at hp ⊢
    have hz12 : -2147483648 ≤ zz ∧ zz < 2147483648 := ⟨hz1, hz2⟩
    have hko : KO τ w uu := hp.choose_spec.2.2
    have hO2 := hko.2 o _ (Or.inr hτ) hO
    refine g_i2l C dL_take_7 hz12 ?_
    refine g_putN (ci := 9) C rfl inTX7 tyX7 tyX7_ok nmX7 0 (by decide) hH.2.2.2.2.2.2.1 rfl rfl hO2 (Nat.le_of_ble_eq_true rfl) rfl rfl dL_take_8 ?_
    refine g_goto (tgt := 18) C dL_take_11 (by decide) ?_
    refine g_iconst C dL_take_18 ?_
    exact g_ireturn C hQ dL_take_19 (by omega) (by omega) (Or.inr ⟨hc1, rfl, i, k, rfl, rfl, zz, uu, s0, hz12, hp, rfl⟩)
  · refine x_tryV C hT hH (x_X6_take_IO _ hls (a0 := ad 100) (p := vi) (q := vk) h_vi h_vk  hc1) (RcV.ob (ci := 8) C rfl hC0.o) rfl ml_RL_93 im_yX6_take se_RX6_yX6_take in_RX6 co_yX6_take hd_X6_take rfl ⟨by omega, by omega⟩ rfl (Nat.le_of_ble_eq_true rfl) ⟨by omega, by omega⟩ dL_take_4 [] ⟨0, 11, 14, 19⟩ [] (by rw [htab]; rfl) (fun z hz => nomatch hz) (by decide) (by decide) kl_RL_19 hH.1 (fun q w2 hp => ?_)
    refine g_astore C dL_take_14 (by decide) rfl ?_
    refine g_iconst C dL_take_16 ?_
    exact g_ireturn C hQ dL_take_17 (by omega) (by omega) (Or.inl ⟨hc1, rfl, hp.1, hp.2⟩)
set_option maxHeartbeats 4000000 in
set_option maxRecDepth 100000 in
theorem w_L_least (l : Launch) {K : KC} {E : GE} {w : Wd} (hfl : l.stackTraces = false) {τ ad : Nat → Nat} {bs ss : Nat → Int} {pb : Nat → PT} {P Q : Nat → Nat} {ct : Nat → Int} (hC0 : CS τ ad w bs ss pb P Q ct) {o : Nat} (hτ : τ o = 199) {n0 : Int} {s0 : Value} (hO : w.2 o = some (true, eO 9 [jJ n0, s0])) {vi : Int} (h_vi : -2147483648 ≤ vi ∧ vi < 2147483648) {b : Int} (h_b : -2147483648 ≤ b ∧ b < 2147483648) : Th K E l yL_least cL_least 5 (some .int) [(0, 11, 14, 19), (0, 11, 18, 21)] 10 (1) (6) [.ref (ad 100), iI vi, iI b, .ref o] w (fun r' w' => (¬ ((0 ≤ vi ∧ vi ≤ 2)) ∧ r' = some (iI 1) ∧ w.1 ≤ w'.1 ∧ w'.2 = w.2) ∨ (((0 ≤ vi ∧ vi ≤ 2)) ∧ ¬ (GB b) ∧ r' = some (iI 2) ∧ w.1 ≤ w'.1 ∧ w'.2 = w.2) ∨ (((0 ≤ vi ∧ vi ≤ 2)) ∧ (GB b) ∧ r' = some (iI 0) ∧ ∃ (i : Nat), vi = (i : Int) ∧ ∃ (zz : Int) (uu : Wd) (sv : Value), (-2147483648 ≤ zz ∧ zz < 2147483648) ∧ (∃ D : PT, (∃ r, RT b r ∧ D = (b, leaP b r, leaQ b r)) ∧ ACTP τ ad uu bs ss pb P Q ct i D (sm D) (some (iI zz)) ∧ KO τ w uu) ∧ w' = wset uu o (true, eO 9 [jJ zz, sv]))) := by
  refine th_intro [some (.ref (ad 100)), some (iI vi), some (iI b), some (.ref o), none] rfl (Nat.le_of_ble_eq_true rfl) pn_L ?_
  intro X C hT hH hRm hl htab hQ
  obtain ⟨hRf, hRl, hRc, hRs⟩ := hRm
  have hls : (xl X).stackTraces = false := by rw [hl]; exact hfl
  refine g_wf (fun hwf => ?_)
  refine g_aload_n C dL_least_0 rfl ?_
  refine g_aload_n C dL_least_1 rfl ?_
  refine g_iload_n C dL_least_2 rfl ?_
  refine g_iload_n C dL_least_3 rfl ?_
  by_cases hc1 : (0 ≤ vi ∧ vi ≤ 2)
  · by_cases hc2 : GB b
    · obtain ⟨i, rfl⟩ : ∃ i : Nat, vi = (i : Int) := ⟨vi.toNat, by omega⟩
      have hgb_b : GB b := hc2
      refine t_callV C hT (s_X6_least _ hC0 (i := i) (b := b) (by omega) hgb_b) (RcV.ob (ci := 8) C rfl hC0.o) rfl ml_RL_96 im_yX6_least se_RX6_yX6_least in_RX6 co_yX6_least hd_X6_least rfl ⟨by omega, by omega⟩ rfl (Nat.le_of_ble_eq_true rfl) ⟨by omega, by omega⟩ dL_least_4 (fun v uu hp => ?_)
      obtain ⟨z0, hzv⟩ : ∃ z : Int, v = some (iI z) := act_v hp.choose_spec.2.1
      subst hzv
      obtain ⟨zz, hzz, hz1, hz2⟩ := gen32 (Int32.ofInt z0)
      rw [show iI z0 = iI zz from congrArg Value.int hzz] at hp ⊢
      have hz12 : -2147483648 ≤ zz ∧ zz < 2147483648 := ⟨hz1, hz2⟩
      have hko : KO τ w uu := hp.choose_spec.2.2
      have hO2 := hko.2 o _ (Or.inr hτ) hO
      refine g_i2l C dL_least_7 hz12 ?_
      refine g_putN (ci := 9) C rfl inTX7 tyX7 tyX7_ok nmX7 0 (by decide) hH.2.2.2.2.2.2.1 rfl rfl hO2 (Nat.le_of_ble_eq_true rfl) rfl rfl dL_least_8 ?_
      refine g_goto (tgt := 22) C dL_least_11 (by decide) ?_
      refine g_iconst C dL_least_22 ?_
      exact g_ireturn C hQ dL_least_23 (by omega) (by omega) (Or.inr (Or.inr ⟨hc1, hc2, rfl, i, rfl, zz, uu, s0, hz12, hp, rfl⟩))
    · refine x_tryV C hT hH (x_X6_least_IA _ hls (a0 := ad 100) (p := vi) (q := b) h_vi h_b hc1 hc2) (RcV.ob (ci := 8) C rfl hC0.o) rfl ml_RL_96 im_yX6_least se_RX6_yX6_least in_RX6 co_yX6_least hd_X6_least rfl ⟨by omega, by omega⟩ rfl (Nat.le_of_ble_eq_true rfl) ⟨by omega, by omega⟩ dL_least_4 [⟨0, 11, 14, 19⟩] ⟨0, 11, 18, 21⟩ [] (by rw [htab]; rfl) (fun z hz => by
          rw [List.mem_singleton.mp hz]
          exact Or.inr ⟨by decide, sIO, kl_RL_19, hH.2.2.1⟩) (by decide) (by decide) kl_RL_21 hH.2.1 (fun q w2 hp => ?_)
      refine g_astore C dL_least_18 (by decide) rfl ?_
      refine g_iconst C dL_least_20 ?_
      exact g_ireturn C hQ dL_least_21 (by omega) (by omega) (Or.inr (Or.inl ⟨hc1, hc2, rfl, hp.1, hp.2⟩))
  · refine x_tryV C hT hH (x_X6_least_IO _ hls (a0 := ad 100) (p := vi) (q := b) h_vi h_b  hc1) (RcV.ob (ci := 8) C rfl hC0.o) rfl ml_RL_96 im_yX6_least se_RX6_yX6_least in_RX6 co_yX6_least hd_X6_least rfl ⟨by omega, by omega⟩ rfl (Nat.le_of_ble_eq_true rfl) ⟨by omega, by omega⟩ dL_least_4 [] ⟨0, 11, 14, 19⟩ [⟨0, 11, 18, 21⟩] (by rw [htab]; rfl) (fun z hz => nomatch hz) (by decide) (by decide) kl_RL_19 hH.1 (fun q w2 hp => ?_)
    refine g_astore C dL_least_14 (by decide) rfl ?_
    refine g_iconst C dL_least_16 ?_
    exact g_ireturn C hQ dL_least_17 (by omega) (by omega) (Or.inl ⟨hc1, rfl, hp.1, hp.2⟩)
set_option maxHeartbeats 4000000 in
set_option maxRecDepth 100000 in
theorem w_L_compose (l : Launch) {K : KC} {E : GE} {w : Wd} (hfl : l.stackTraces = false) {τ ad : Nat → Nat} {bs ss : Nat → Int} {pb : Nat → PT} {P Q : Nat → Nat} {ct : Nat → Int} (hC0 : CS τ ad w bs ss pb P Q ct) {o : Nat} (hτ : τ o = 199) {n0 : Int} {s0 : Value} (hO : w.2 o = some (true, eO 9 [jJ n0, s0])) {vi : Int} (h_vi : -2147483648 ≤ vi ∧ vi < 2147483648) {vk : Int} (h_vk : -2147483648 ≤ vk ∧ vk < 2147483648) {vn : Int} (h_vn : -2147483648 ≤ vn ∧ vn < 2147483648) : Th K E l yL_compose cL_compose 6 (some .int) [(0, 13, 16, 19)] 10 (1) (6) [.ref (ad 100), iI vi, iI vk, iI vn, .ref o] w (fun r' w' => (¬ ((0 ≤ vi ∧ vi ≤ 2) ∧ (0 ≤ vk ∧ vk ≤ 2) ∧ (0 ≤ vn ∧ vn ≤ 2)) ∧ r' = some (iI 1) ∧ w.1 ≤ w'.1 ∧ w'.2 = w.2) ∨ (((0 ≤ vi ∧ vi ≤ 2) ∧ (0 ≤ vk ∧ vk ≤ 2) ∧ (0 ≤ vn ∧ vn ≤ 2)) ∧ r' = some (iI 0) ∧ ∃ (i : Nat) (k : Nat) (n : Nat), vi = (i : Int) ∧ vk = (k : Int) ∧ vn = (n : Int) ∧ ∃ (zz : Int) (uu : Wd) (sv : Value), (-2147483648 ≤ zz ∧ zz < 2147483648) ∧ (∃ D : PT, (D = mulP (pb i) (pb k)) ∧ ACTP τ ad uu bs ss pb P Q ct n D ((pb i).1 = (pb k).1 ∧ sm D) (some (iI zz)) ∧ KO τ w uu) ∧ w' = wset uu o (true, eO 9 [jJ zz, sv]))) := by
  refine th_intro [some (.ref (ad 100)), some (iI vi), some (iI vk), some (iI vn), some (.ref o), none] rfl (Nat.le_of_ble_eq_true rfl) pn_L ?_
  intro X C hT hH hRm hl htab hQ
  obtain ⟨hRf, hRl, hRc, hRs⟩ := hRm
  have hls : (xl X).stackTraces = false := by rw [hl]; exact hfl
  refine g_wf (fun hwf => ?_)
  refine g_aload C dL_compose_0 rfl ?_
  refine g_aload_n C dL_compose_2 rfl ?_
  refine g_iload_n C dL_compose_3 rfl ?_
  refine g_iload_n C dL_compose_4 rfl ?_
  refine g_iload_n C dL_compose_5 rfl ?_
  by_cases hc1 : (0 ≤ vi ∧ vi ≤ 2) ∧ (0 ≤ vk ∧ vk ≤ 2) ∧ (0 ≤ vn ∧ vn ≤ 2)
  · obtain ⟨i, rfl⟩ : ∃ i : Nat, vi = (i : Int) := ⟨vi.toNat, by omega⟩
    obtain ⟨k, rfl⟩ : ∃ k : Nat, vk = (k : Int) := ⟨vk.toNat, by omega⟩
    obtain ⟨n, rfl⟩ : ∃ n : Nat, vn = (n : Int) := ⟨vn.toNat, by omega⟩
    refine t_callV C hT (s_X6_compose _ hC0 (i := i) (k := k) (n := n) (by omega) (by omega) (by omega)) (RcV.ob (ci := 8) C rfl hC0.o) rfl ml_RL_99 im_yX6_compose se_RX6_yX6_compose in_RX6 co_yX6_compose hd_X6_compose rfl ⟨by omega, by omega⟩ rfl (Nat.le_of_ble_eq_true rfl) ⟨by omega, by omega⟩ dL_compose_6 (fun v uu hp => ?_)
    obtain ⟨z0, hzv⟩ : ∃ z : Int, v = some (iI z) := act_v hp.choose_spec.2.1
    subst hzv
    obtain ⟨zz, hzz, hz1, hz2⟩ := gen32 (Int32.ofInt z0)
    rw [show iI z0 = iI zz from congrArg Value.int hzz] at hp ⊢
    have hz12 : -2147483648 ≤ zz ∧ zz < 2147483648 := ⟨hz1, hz2⟩
    have hko : KO τ w uu := hp.choose_spec.2.2
    have hO2 := hko.2 o _ (Or.inr hτ) hO
    refine g_i2l C dL_compose_9 hz12 ?_
    refine g_putN (ci := 9) C rfl inTX7 tyX7 tyX7_ok nmX7 0 (by decide) hH.2.2.2.2.2.2.1 rfl rfl hO2 (Nat.le_of_ble_eq_true rfl) rfl rfl dL_compose_10 ?_
    refine g_goto (tgt := 20) C dL_compose_13 (by decide) ?_
    refine g_iconst C dL_compose_20 ?_
    exact g_ireturn C hQ dL_compose_21 (by omega) (by omega) (Or.inr ⟨hc1, rfl, i, k, n, rfl, rfl, rfl, zz, uu, s0, hz12, hp, rfl⟩)
  · refine x_tryV C hT hH (x_X6_compose_IO _ hls (a0 := ad 100) (p := vi) (q := vk) (r := vn) h_vi h_vk h_vn  hc1) (RcV.ob (ci := 8) C rfl hC0.o) rfl ml_RL_99 im_yX6_compose se_RX6_yX6_compose in_RX6 co_yX6_compose hd_X6_compose rfl ⟨by omega, by omega⟩ rfl (Nat.le_of_ble_eq_true rfl) ⟨by omega, by omega⟩ dL_compose_6 [] ⟨0, 13, 16, 19⟩ [] (by rw [htab]; rfl) (fun z hz => nomatch hz) (by decide) (by decide) kl_RL_19 hH.1 (fun q w2 hp => ?_)
    refine g_astore C dL_compose_16 (by decide) rfl ?_
    refine g_iconst C dL_compose_18 ?_
    exact g_ireturn C hQ dL_compose_19 (by omega) (by omega) (Or.inl ⟨hc1, rfl, hp.1, hp.2⟩)
set_option maxHeartbeats 4000000 in
set_option maxRecDepth 100000 in
theorem w_L_power (l : Launch) {K : KC} {E : GE} {w : Wd} (hfl : l.stackTraces = false) {τ ad : Nat → Nat} {bs ss : Nat → Int} {pb : Nat → PT} {P Q : Nat → Nat} {ct : Nat → Int} (hC0 : CS τ ad w bs ss pb P Q ct) {o : Nat} (hτ : τ o = 199) {n0 : Int} {s0 : Value} (hO : w.2 o = some (true, eO 9 [jJ n0, s0])) {vi : Int} (h_vi : -2147483648 ≤ vi ∧ vi < 2147483648) {vz : Int} (h_vz : -2147483648 ≤ vz ∧ vz < 2147483648) : Th K E l yL_power cL_power 5 (some .int) [(0, 11, 14, 19), (0, 11, 18, 21)] 10 (1) (6) [.ref (ad 100), iI vi, iI vz, .ref o] w (fun r' w' => (¬ ((0 ≤ vi ∧ vi ≤ 2)) ∧ r' = some (iI 1) ∧ w.1 ≤ w'.1 ∧ w'.2 = w.2) ∨ (((0 ≤ vi ∧ vi ≤ 2)) ∧ ¬ ((0 ≤ vz ∧ vz ≤ 5)) ∧ r' = some (iI 2) ∧ w.1 ≤ w'.1 ∧ w'.2 = w.2) ∨ (((0 ≤ vi ∧ vi ≤ 2)) ∧ ((0 ≤ vz ∧ vz ≤ 5)) ∧ r' = some (iI 0) ∧ ∃ (i : Nat) (z : Nat), vi = (i : Int) ∧ vz = (z : Int) ∧ ∃ (zz : Int) (uu : Wd) (sv : Value), (-2147483648 ≤ zz ∧ zz < 2147483648) ∧ (∃ D : PT, (D = powT (pb i) z) ∧ ACTP τ ad uu bs ss pb P Q ct i D (sm D) (some (iI zz)) ∧ KO τ w uu) ∧ w' = wset uu o (true, eO 9 [jJ zz, sv]))) := by
  refine th_intro [some (.ref (ad 100)), some (iI vi), some (iI vz), some (.ref o), none] rfl (Nat.le_of_ble_eq_true rfl) pn_L ?_
  intro X C hT hH hRm hl htab hQ
  obtain ⟨hRf, hRl, hRc, hRs⟩ := hRm
  have hls : (xl X).stackTraces = false := by rw [hl]; exact hfl
  refine g_wf (fun hwf => ?_)
  refine g_aload_n C dL_power_0 rfl ?_
  refine g_aload_n C dL_power_1 rfl ?_
  refine g_iload_n C dL_power_2 rfl ?_
  refine g_iload_n C dL_power_3 rfl ?_
  by_cases hc1 : (0 ≤ vi ∧ vi ≤ 2)
  · by_cases hc2 : (0 ≤ vz ∧ vz ≤ 5)
    · obtain ⟨i, rfl⟩ : ∃ i : Nat, vi = (i : Int) := ⟨vi.toNat, by omega⟩
      obtain ⟨z, rfl⟩ : ∃ z : Nat, vz = (z : Int) := ⟨vz.toNat, by omega⟩
      refine t_callV C hT (s_X6_power _ hC0 (i := i) (z := z) (by omega) (by omega)) (RcV.ob (ci := 8) C rfl hC0.o) rfl ml_RL_103 im_yX6_power se_RX6_yX6_power in_RX6 co_yX6_power hd_X6_power rfl ⟨by omega, by omega⟩ rfl (Nat.le_of_ble_eq_true rfl) ⟨by omega, by omega⟩ dL_power_4 (fun v uu hp => ?_)
      obtain ⟨z0, hzv⟩ : ∃ z : Int, v = some (iI z) := act_v hp.choose_spec.2.1
      subst hzv
      obtain ⟨zz, hzz, hz1, hz2⟩ := gen32 (Int32.ofInt z0)
      rw [show iI z0 = iI zz from congrArg Value.int hzz] at hp ⊢
      have hz12 : -2147483648 ≤ zz ∧ zz < 2147483648 := ⟨hz1, hz2⟩
      have hko : KO τ w uu := hp.choose_spec.2.2
      have hO2 := hko.2 o _ (Or.inr hτ) hO
      refine g_i2l C dL_power_7 hz12 ?_
      refine g_putN (ci := 9) C rfl inTX7 tyX7 tyX7_ok nmX7 0 (by decide) hH.2.2.2.2.2.2.1 rfl rfl hO2 (Nat.le_of_ble_eq_true rfl) rfl rfl dL_power_8 ?_
      refine g_goto (tgt := 22) C dL_power_11 (by decide) ?_
      refine g_iconst C dL_power_22 ?_
      exact g_ireturn C hQ dL_power_23 (by omega) (by omega) (Or.inr (Or.inr ⟨hc1, hc2, rfl, i, z, rfl, rfl, zz, uu, s0, hz12, hp, rfl⟩))
    · refine x_tryV C hT hH (x_X6_power_IA _ hls (a0 := ad 100) (p := vi) (q := vz) h_vi h_vz hc1 hc2) (RcV.ob (ci := 8) C rfl hC0.o) rfl ml_RL_103 im_yX6_power se_RX6_yX6_power in_RX6 co_yX6_power hd_X6_power rfl ⟨by omega, by omega⟩ rfl (Nat.le_of_ble_eq_true rfl) ⟨by omega, by omega⟩ dL_power_4 [⟨0, 11, 14, 19⟩] ⟨0, 11, 18, 21⟩ [] (by rw [htab]; rfl) (fun z hz => by
          rw [List.mem_singleton.mp hz]
          exact Or.inr ⟨by decide, sIO, kl_RL_19, hH.2.2.1⟩) (by decide) (by decide) kl_RL_21 hH.2.1 (fun q w2 hp => ?_)
      refine g_astore C dL_power_18 (by decide) rfl ?_
      refine g_iconst C dL_power_20 ?_
      exact g_ireturn C hQ dL_power_21 (by omega) (by omega) (Or.inr (Or.inl ⟨hc1, hc2, rfl, hp.1, hp.2⟩))
  · refine x_tryV C hT hH (x_X6_power_IO _ hls (a0 := ad 100) (p := vi) (q := vz) h_vi h_vz  hc1) (RcV.ob (ci := 8) C rfl hC0.o) rfl ml_RL_103 im_yX6_power se_RX6_yX6_power in_RX6 co_yX6_power hd_X6_power rfl ⟨by omega, by omega⟩ rfl (Nat.le_of_ble_eq_true rfl) ⟨by omega, by omega⟩ dL_power_4 [] ⟨0, 11, 14, 19⟩ [⟨0, 11, 18, 21⟩] (by rw [htab]; rfl) (fun z hz => nomatch hz) (by decide) (by decide) kl_RL_19 hH.1 (fun q w2 hp => ?_)
    refine g_astore C dL_power_14 (by decide) rfl ?_
    refine g_iconst C dL_power_16 ?_
    exact g_ireturn C hQ dL_power_17 (by omega) (by omega) (Or.inl ⟨hc1, rfl, hp.1, hp.2⟩)
set_option maxHeartbeats 4000000 in
set_option maxRecDepth 100000 in
theorem w_L_mirror (l : Launch) {K : KC} {E : GE} {w : Wd} (hfl : l.stackTraces = false) {τ ad : Nat → Nat} {bs ss : Nat → Int} {pb : Nat → PT} {P Q : Nat → Nat} {ct : Nat → Int} (hC0 : CS τ ad w bs ss pb P Q ct) {o : Nat} (hτ : τ o = 199) {n0 : Int} {s0 : Value} (hO : w.2 o = some (true, eO 9 [jJ n0, s0])) {vi : Int} (h_vi : -2147483648 ≤ vi ∧ vi < 2147483648) {y : Int} (hy_y : y = 0 ∨ y = 1) : Th K E l yL_mirror cL_mirror 5 (some .int) [(0, 11, 14, 19)] 10 (1) (6) [.ref (ad 100), iI vi, iI y, .ref o] w (fun r' w' => (¬ ((0 ≤ vi ∧ vi ≤ 2)) ∧ r' = some (iI 1) ∧ w.1 ≤ w'.1 ∧ w'.2 = w.2) ∨ (((0 ≤ vi ∧ vi ≤ 2)) ∧ r' = some (iI 0) ∧ ∃ (i : Nat), vi = (i : Int) ∧ ∃ (zz : Int) (uu : Wd) (sv : Value), (-2147483648 ≤ zz ∧ zz < 2147483648) ∧ (∃ D : PT, (∃ v : Int, (y = 1 ∧ v = -(pb i).2.1 ∨ y = 0 ∧ v = (pb i).2.1) ∧ D = ((pb i).1, v, -(pb i).2.2)) ∧ ACTP τ ad uu bs ss pb P Q ct i D (sm D) (some (iI zz)) ∧ KO τ w uu) ∧ w' = wset uu o (true, eO 9 [jJ zz, sv]))) := by
  refine th_intro [some (.ref (ad 100)), some (iI vi), some (iI y), some (.ref o), none] rfl (Nat.le_of_ble_eq_true rfl) pn_L ?_
  intro X C hT hH hRm hl htab hQ
  obtain ⟨hRf, hRl, hRc, hRs⟩ := hRm
  have hls : (xl X).stackTraces = false := by rw [hl]; exact hfl
  refine g_wf (fun hwf => ?_)
  refine g_aload_n C dL_mirror_0 rfl ?_
  refine g_aload_n C dL_mirror_1 rfl ?_
  refine g_iload_n C dL_mirror_2 rfl ?_
  refine g_iload_n C dL_mirror_3 rfl ?_
  by_cases hc1 : (0 ≤ vi ∧ vi ≤ 2)
  · obtain ⟨i, rfl⟩ : ∃ i : Nat, vi = (i : Int) := ⟨vi.toNat, by omega⟩
    refine t_callV C hT (s_X6_mirror _ hC0 (i := i) (y := y) (by omega) hy_y) (RcV.ob (ci := 8) C rfl hC0.o) rfl ml_RL_106 im_yX6_mirror se_RX6_yX6_mirror in_RX6 co_yX6_mirror hd_X6_mirror rfl ⟨by omega, by omega⟩ rfl (Nat.le_of_ble_eq_true rfl) ⟨by omega, by omega⟩ dL_mirror_4 (fun v uu hp => ?_)
    obtain ⟨z0, hzv⟩ : ∃ z : Int, v = some (iI z) := act_v hp.choose_spec.2.1
    subst hzv
    obtain ⟨zz, hzz, hz1, hz2⟩ := gen32 (Int32.ofInt z0)
    rw [show iI z0 = iI zz from congrArg Value.int hzz] at hp ⊢
    have hz12 : -2147483648 ≤ zz ∧ zz < 2147483648 := ⟨hz1, hz2⟩
    have hko : KO τ w uu := hp.choose_spec.2.2
    have hO2 := hko.2 o _ (Or.inr hτ) hO
    refine g_i2l C dL_mirror_7 hz12 ?_
    refine g_putN (ci := 9) C rfl inTX7 tyX7 tyX7_ok nmX7 0 (by decide) hH.2.2.2.2.2.2.1 rfl rfl hO2 (Nat.le_of_ble_eq_true rfl) rfl rfl dL_mirror_8 ?_
    refine g_goto (tgt := 18) C dL_mirror_11 (by decide) ?_
    refine g_iconst C dL_mirror_18 ?_
    exact g_ireturn C hQ dL_mirror_19 (by omega) (by omega) (Or.inr ⟨hc1, rfl, i, rfl, zz, uu, s0, hz12, hp, rfl⟩)
  · refine x_tryV C hT hH (x_X6_mirror_IO _ hls (a0 := ad 100) (p := vi) (q := y) h_vi  hc1) (RcV.ob (ci := 8) C rfl hC0.o) rfl ml_RL_106 im_yX6_mirror se_RX6_yX6_mirror in_RX6 co_yX6_mirror hd_X6_mirror rfl ⟨by omega, by omega⟩ rfl (Nat.le_of_ble_eq_true rfl) ⟨by omega, by omega⟩ dL_mirror_4 [] ⟨0, 11, 14, 19⟩ [] (by rw [htab]; rfl) (fun z hz => nomatch hz) (by decide) (by decide) kl_RL_19 hH.1 (fun q w2 hp => ?_)
    refine g_astore C dL_mirror_14 (by decide) rfl ?_
    refine g_iconst C dL_mirror_16 ?_
    exact g_ireturn C hQ dL_mirror_17 (by omega) (by omega) (Or.inl ⟨hc1, rfl, hp.1, hp.2⟩)
set_option maxHeartbeats 4000000 in
set_option maxRecDepth 100000 in
theorem w_L_divideBy (l : Launch) {K : KC} {E : GE} {w : Wd} (hfl : l.stackTraces = false) {τ ad : Nat → Nat} {bs ss : Nat → Int} {pb : Nat → PT} {P Q : Nat → Nat} {ct : Nat → Int} (hC0 : CS τ ad w bs ss pb P Q ct) {o : Nat} (hτ : τ o = 199) {n0 : Int} {s0 : Value} (hO : w.2 o = some (true, eO 9 [jJ n0, s0])) {vi : Int} (h_vi : -2147483648 ≤ vi ∧ vi < 2147483648) {z : Int} (h_z : -2147483648 ≤ z ∧ z < 2147483648) : Th K E l yL_divideBy cL_divideBy 5 (some .int) [(0, 11, 14, 19), (0, 11, 18, 21)] 10 (1) (6) [.ref (ad 100), iI vi, iI z, .ref o] w (fun r' w' => (¬ ((0 ≤ vi ∧ vi ≤ 2)) ∧ r' = some (iI 1) ∧ w.1 ≤ w'.1 ∧ w'.2 = w.2) ∨ (((0 ≤ vi ∧ vi ≤ 2)) ∧ ¬ ((-99 ≤ z ∧ z ≤ 99)) ∧ r' = some (iI 2) ∧ w.1 ≤ w'.1 ∧ w'.2 = w.2) ∨ (((0 ≤ vi ∧ vi ≤ 2)) ∧ ((-99 ≤ z ∧ z ≤ 99)) ∧ r' = some (iI 0) ∧ ∃ (i : Nat), vi = (i : Int) ∧ ∃ (zz : Int) (uu : Wd) (sv : Value), (-2147483648 ≤ zz ∧ zz < 2147483648) ∧ (∃ D : PT, (dvC (pb i) z → D.1 = (pb i).1 ∧ D.2.1 * z = (pb i).2.1 ∧ D.2.2 * z = (pb i).2.2) ∧ ACTP τ ad uu bs ss pb P Q ct i D (dvC (pb i) z) (some (iI zz)) ∧ KO τ w uu) ∧ w' = wset uu o (true, eO 9 [jJ zz, sv]))) := by
  refine th_intro [some (.ref (ad 100)), some (iI vi), some (iI z), some (.ref o), none] rfl (Nat.le_of_ble_eq_true rfl) pn_L ?_
  intro X C hT hH hRm hl htab hQ
  obtain ⟨hRf, hRl, hRc, hRs⟩ := hRm
  have hls : (xl X).stackTraces = false := by rw [hl]; exact hfl
  refine g_wf (fun hwf => ?_)
  refine g_aload_n C dL_divideBy_0 rfl ?_
  refine g_aload_n C dL_divideBy_1 rfl ?_
  refine g_iload_n C dL_divideBy_2 rfl ?_
  refine g_iload_n C dL_divideBy_3 rfl ?_
  by_cases hc1 : (0 ≤ vi ∧ vi ≤ 2)
  · by_cases hc2 : (-99 ≤ z ∧ z ≤ 99)
    · obtain ⟨i, rfl⟩ : ∃ i : Nat, vi = (i : Int) := ⟨vi.toNat, by omega⟩
      refine t_callV C hT (s_X6_divideBy _ hC0 (i := i) (z := z) (by omega) (by omega)) (RcV.ob (ci := 8) C rfl hC0.o) rfl ml_RL_110 im_yX6_divideBy se_RX6_yX6_divideBy in_RX6 co_yX6_divideBy hd_X6_divideBy rfl ⟨by omega, by omega⟩ rfl (Nat.le_of_ble_eq_true rfl) ⟨by omega, by omega⟩ dL_divideBy_4 (fun v uu hp => ?_)
      obtain ⟨z0, hzv⟩ : ∃ z : Int, v = some (iI z) := act_v hp.choose_spec.2.1
      subst hzv
      obtain ⟨zz, hzz, hz1, hz2⟩ := gen32 (Int32.ofInt z0)
      rw [show iI z0 = iI zz from congrArg Value.int hzz] at hp ⊢
      have hz12 : -2147483648 ≤ zz ∧ zz < 2147483648 := ⟨hz1, hz2⟩
      have hko : KO τ w uu := hp.choose_spec.2.2
      have hO2 := hko.2 o _ (Or.inr hτ) hO
      refine g_i2l C dL_divideBy_7 hz12 ?_
      refine g_putN (ci := 9) C rfl inTX7 tyX7 tyX7_ok nmX7 0 (by decide) hH.2.2.2.2.2.2.1 rfl rfl hO2 (Nat.le_of_ble_eq_true rfl) rfl rfl dL_divideBy_8 ?_
      refine g_goto (tgt := 22) C dL_divideBy_11 (by decide) ?_
      refine g_iconst C dL_divideBy_22 ?_
      exact g_ireturn C hQ dL_divideBy_23 (by omega) (by omega) (Or.inr (Or.inr ⟨hc1, hc2, rfl, i, rfl, zz, uu, s0, hz12, hp, rfl⟩))
    · refine x_tryV C hT hH (x_X6_divideBy_IA _ hls (a0 := ad 100) (p := vi) (q := z) h_vi h_z hc1 hc2) (RcV.ob (ci := 8) C rfl hC0.o) rfl ml_RL_110 im_yX6_divideBy se_RX6_yX6_divideBy in_RX6 co_yX6_divideBy hd_X6_divideBy rfl ⟨by omega, by omega⟩ rfl (Nat.le_of_ble_eq_true rfl) ⟨by omega, by omega⟩ dL_divideBy_4 [⟨0, 11, 14, 19⟩] ⟨0, 11, 18, 21⟩ [] (by rw [htab]; rfl) (fun z hz => by
          rw [List.mem_singleton.mp hz]
          exact Or.inr ⟨by decide, sIO, kl_RL_19, hH.2.2.1⟩) (by decide) (by decide) kl_RL_21 hH.2.1 (fun q w2 hp => ?_)
      refine g_astore C dL_divideBy_18 (by decide) rfl ?_
      refine g_iconst C dL_divideBy_20 ?_
      exact g_ireturn C hQ dL_divideBy_21 (by omega) (by omega) (Or.inr (Or.inl ⟨hc1, hc2, rfl, hp.1, hp.2⟩))
  · refine x_tryV C hT hH (x_X6_divideBy_IO _ hls (a0 := ad 100) (p := vi) (q := z) h_vi h_z  hc1) (RcV.ob (ci := 8) C rfl hC0.o) rfl ml_RL_110 im_yX6_divideBy se_RX6_yX6_divideBy in_RX6 co_yX6_divideBy hd_X6_divideBy rfl ⟨by omega, by omega⟩ rfl (Nat.le_of_ble_eq_true rfl) ⟨by omega, by omega⟩ dL_divideBy_4 [] ⟨0, 11, 14, 19⟩ [⟨0, 11, 18, 21⟩] (by rw [htab]; rfl) (fun z hz => nomatch hz) (by decide) (by decide) kl_RL_19 hH.1 (fun q w2 hp => ?_)
    refine g_astore C dL_divideBy_14 (by decide) rfl ?_
    refine g_iconst C dL_divideBy_16 ?_
    exact g_ireturn C hQ dL_divideBy_17 (by omega) (by omega) (Or.inl ⟨hc1, rfl, hp.1, hp.2⟩)
set_option maxHeartbeats 4000000 in
set_option maxRecDepth 100000 in
theorem w_L_pairCopy (l : Launch) {K : KC} {E : GE} {w : Wd} (hfl : l.stackTraces = false) {τ ad : Nat → Nat} {bs ss : Nat → Int} {pb : Nat → PT} {P Q : Nat → Nat} {ct : Nat → Int} (hC0 : CS τ ad w bs ss pb P Q ct) {o : Nat} (hτ : τ o = 199) {n0 : Int} {s0 : Value} (hO : w.2 o = some (true, eO 9 [jJ n0, s0])) {vi : Int} (h_vi : -2147483648 ≤ vi ∧ vi < 2147483648) {vk : Int} (h_vk : -2147483648 ≤ vk ∧ vk < 2147483648) : Th K E l yL_pairCopy cL_pairCopy 5 (some .int) [(0, 11, 14, 19)] 10 (1) (6) [.ref (ad 100), iI vi, iI vk, .ref o] w (fun r' w' => (¬ ((0 ≤ vi ∧ vi ≤ 2) ∧ (0 ≤ vk ∧ vk ≤ 2)) ∧ r' = some (iI 1) ∧ w.1 ≤ w'.1 ∧ w'.2 = w.2) ∨ (((0 ≤ vi ∧ vi ≤ 2) ∧ (0 ≤ vk ∧ vk ≤ 2)) ∧ r' = some (iI 0) ∧ ∃ (i : Nat) (k : Nat), vi = (i : Int) ∧ vk = (k : Int) ∧ ∃ (zz : Int) (uu : Wd) (sv : Value), (-2147483648 ≤ zz ∧ zz < 2147483648) ∧ (∃ D : PT, (D = pb i) ∧ ACTP τ ad uu bs ss pb P Q ct k D (sm D) (some (iI zz)) ∧ KO τ w uu) ∧ w' = wset uu o (true, eO 9 [jJ zz, sv]))) := by
  refine th_intro [some (.ref (ad 100)), some (iI vi), some (iI vk), some (.ref o), none] rfl (Nat.le_of_ble_eq_true rfl) pn_L ?_
  intro X C hT hH hRm hl htab hQ
  obtain ⟨hRf, hRl, hRc, hRs⟩ := hRm
  have hls : (xl X).stackTraces = false := by rw [hl]; exact hfl
  refine g_wf (fun hwf => ?_)
  refine g_aload_n C dL_pairCopy_0 rfl ?_
  refine g_aload_n C dL_pairCopy_1 rfl ?_
  refine g_iload_n C dL_pairCopy_2 rfl ?_
  refine g_iload_n C dL_pairCopy_3 rfl ?_
  by_cases hc1 : (0 ≤ vi ∧ vi ≤ 2) ∧ (0 ≤ vk ∧ vk ≤ 2)
  · obtain ⟨i, rfl⟩ : ∃ i : Nat, vi = (i : Int) := ⟨vi.toNat, by omega⟩
    obtain ⟨k, rfl⟩ : ∃ k : Nat, vk = (k : Int) := ⟨vk.toNat, by omega⟩
    refine t_callV C hT (s_X6_pairCopy _ hC0 (i := i) (k := k) (by omega) (by omega)) (RcV.ob (ci := 8) C rfl hC0.o) rfl ml_RL_113 im_yX6_pairCopy se_RX6_yX6_pairCopy in_RX6 co_yX6_pairCopy hd_X6_pairCopy rfl ⟨by omega, by omega⟩ rfl (Nat.le_of_ble_eq_true rfl) ⟨by omega, by omega⟩ dL_pairCopy_4 (fun v uu hp => ?_)
    obtain ⟨z0, hzv⟩ : ∃ z : Int, v = some (iI z) := act_v hp.choose_spec.2.1
    subst hzv
    obtain ⟨zz, hzz, hz1, hz2⟩ := gen32 (Int32.ofInt z0)
    rw [show iI z0 = iI zz from congrArg Value.int hzz] at hp ⊢
    have hz12 : -2147483648 ≤ zz ∧ zz < 2147483648 := ⟨hz1, hz2⟩
    have hko : KO τ w uu := hp.choose_spec.2.2
    have hO2 := hko.2 o _ (Or.inr hτ) hO
    refine g_i2l C dL_pairCopy_7 hz12 ?_
    refine g_putN (ci := 9) C rfl inTX7 tyX7 tyX7_ok nmX7 0 (by decide) hH.2.2.2.2.2.2.1 rfl rfl hO2 (Nat.le_of_ble_eq_true rfl) rfl rfl dL_pairCopy_8 ?_
    refine g_goto (tgt := 18) C dL_pairCopy_11 (by decide) ?_
    refine g_iconst C dL_pairCopy_18 ?_
    exact g_ireturn C hQ dL_pairCopy_19 (by omega) (by omega) (Or.inr ⟨hc1, rfl, i, k, rfl, rfl, zz, uu, s0, hz12, hp, rfl⟩)
  · refine x_tryV C hT hH (x_X6_pairCopy_IO _ hls (a0 := ad 100) (p := vi) (q := vk) h_vi h_vk  hc1) (RcV.ob (ci := 8) C rfl hC0.o) rfl ml_RL_113 im_yX6_pairCopy se_RX6_yX6_pairCopy in_RX6 co_yX6_pairCopy hd_X6_pairCopy rfl ⟨by omega, by omega⟩ rfl (Nat.le_of_ble_eq_true rfl) ⟨by omega, by omega⟩ dL_pairCopy_4 [] ⟨0, 11, 14, 19⟩ [] (by rw [htab]; rfl) (fun z hz => nomatch hz) (by decide) (by decide) kl_RL_19 hH.1 (fun q w2 hp => ?_)
    refine g_astore C dL_pairCopy_14 (by decide) rfl ?_
    refine g_iconst C dL_pairCopy_16 ?_
    exact g_ireturn C hQ dL_pairCopy_17 (by omega) (by omega) (Or.inl ⟨hc1, rfl, hp.1, hp.2⟩)
set_option maxHeartbeats 4000000 in
set_option maxRecDepth 100000 in
theorem w_L_pairBase (l : Launch) {K : KC} {E : GE} {w : Wd} (hfl : l.stackTraces = false) {τ ad : Nat → Nat} {bs ss : Nat → Int} {pb : Nat → PT} {P Q : Nat → Nat} {ct : Nat → Int} (hC0 : CS τ ad w bs ss pb P Q ct) {o : Nat} (hτ : τ o = 199) {n0 : Int} {s0 : Value} (hO : w.2 o = some (true, eO 9 [jJ n0, s0])) {vi : Int} (h_vi : -2147483648 ≤ vi ∧ vi < 2147483648) : Th K E l yL_pairBase cL_pairBase 4 (some .int) [(0, 10, 13, 19)] 10 (1) (6) [.ref (ad 100), iI vi, .ref o] w (fun r' w' => (¬ ((0 ≤ vi ∧ vi ≤ 2)) ∧ r' = some (iI 1) ∧ w.1 ≤ w'.1 ∧ w'.2 = w.2) ∨ (((0 ≤ vi ∧ vi ≤ 2)) ∧ r' = some (iI 0) ∧ ∃ (i : Nat), vi = (i : Int) ∧ ∃ (zz : Int) (uu : Wd) (sv : Value), (-2147483648 ≤ zz ∧ zz < 2147483648) ∧ ((some (iI zz)) = some (iI (pb i).1) ∧ CS τ ad uu (bs) (ss) (pb) (P) (Q) (ct) ∧ KO τ w uu) ∧ w' = wset uu o (true, eO 9 [jJ zz, sv]))) := by
  refine th_intro [some (.ref (ad 100)), some (iI vi), some (.ref o), none] rfl (Nat.le_of_ble_eq_true rfl) pn_L ?_
  intro X C hT hH hRm hl htab hQ
  obtain ⟨hRf, hRl, hRc, hRs⟩ := hRm
  have hls : (xl X).stackTraces = false := by rw [hl]; exact hfl
  refine g_wf (fun hwf => ?_)
  refine g_aload_n C dL_pairBase_0 rfl ?_
  refine g_aload_n C dL_pairBase_1 rfl ?_
  refine g_iload_n C dL_pairBase_2 rfl ?_
  by_cases hc1 : (0 ≤ vi ∧ vi ≤ 2)
  · obtain ⟨i, rfl⟩ : ∃ i : Nat, vi = (i : Int) := ⟨vi.toNat, by omega⟩
    refine t_callV C hT (s_X6_pairBase _ hC0 (i := i) (by omega)) (RcV.ob (ci := 8) C rfl hC0.o) rfl ml_RL_116 im_yX6_pairBase se_RX6_yX6_pairBase in_RX6 co_yX6_pairBase hd_X6_pairBase rfl ⟨by omega, by omega⟩ rfl (Nat.le_of_ble_eq_true rfl) ⟨by omega, by omega⟩ dL_pairBase_3 (fun v uu hp => ?_)
    obtain ⟨z0, hzv⟩ : ∃ z : Int, v = some (iI z) := ⟨_, hp.1⟩
    subst hzv
    obtain ⟨zz, hzz, hz1, hz2⟩ := gen32 (Int32.ofInt z0)
    rw [show iI z0 = iI zz from congrArg Value.int hzz] at hp ⊢
    have hz12 : -2147483648 ≤ zz ∧ zz < 2147483648 := ⟨hz1, hz2⟩
    have hko : KO τ w uu := hp.2.2
    have hO2 := hko.2 o _ (Or.inr hτ) hO
    refine g_i2l C dL_pairBase_6 hz12 ?_
    refine g_putN (ci := 9) C rfl inTX7 tyX7 tyX7_ok nmX7 0 (by decide) hH.2.2.2.2.2.2.1 rfl rfl hO2 (Nat.le_of_ble_eq_true rfl) rfl rfl dL_pairBase_7 ?_
    refine g_goto (tgt := 16) C dL_pairBase_10 (by decide) ?_
    refine g_iconst C dL_pairBase_16 ?_
    exact g_ireturn C hQ dL_pairBase_17 (by omega) (by omega) (Or.inr ⟨hc1, rfl, i, rfl, zz, uu, s0, hz12, hp, rfl⟩)
  · refine x_tryV C hT hH (x_X6_pairBase_IO _ hls (a0 := ad 100) (p := vi) h_vi  hc1) (RcV.ob (ci := 8) C rfl hC0.o) rfl ml_RL_116 im_yX6_pairBase se_RX6_yX6_pairBase in_RX6 co_yX6_pairBase hd_X6_pairBase rfl ⟨by omega, by omega⟩ rfl (Nat.le_of_ble_eq_true rfl) ⟨by omega, by omega⟩ dL_pairBase_3 [] ⟨0, 10, 13, 19⟩ [] (by rw [htab]; rfl) (fun z hz => nomatch hz) (by decide) (by decide) kl_RL_19 hH.1 (fun q w2 hp => ?_)
    refine g_astore_n C dL_pairBase_13 (by decide) rfl ?_
    refine g_iconst C dL_pairBase_14 ?_
    exact g_ireturn C hQ dL_pairBase_15 (by omega) (by omega) (Or.inl ⟨hc1, rfl, hp.1, hp.2⟩)
set_option maxHeartbeats 4000000 in
set_option maxRecDepth 100000 in
theorem w_L_pairText (l : Launch) {K : KC} {E : GE} {w : Wd} (hfl : l.stackTraces = false) {τ ad : Nat → Nat} {bs ss : Nat → Int} {pb : Nat → PT} {P Q : Nat → Nat} {ct : Nat → Int} (hC0 : CS τ ad w bs ss pb P Q ct) {o : Nat} (hτ : τ o = 199) {n0 : Int} {s0 : Value} (hO : w.2 o = some (true, eO 9 [jJ n0, s0])) {vi : Int} (h_vi : -2147483648 ≤ vi ∧ vi < 2147483648) {y : Int} (hy_y : y = 0 ∨ y = 1) : Th K E l yL_pairText cL_pairText 5 (some .int) [(0, 10, 13, 19)] 10 (61) (2600) [.ref (ad 100), iI vi, iI y, .ref o] w (fun r' w' => (¬ ((0 ≤ vi ∧ vi ≤ 2)) ∧ r' = some (iI 1) ∧ w.1 ≤ w'.1 ∧ w'.2 = w.2) ∨ (((0 ≤ vi ∧ vi ≤ 2)) ∧ r' = some (iI 0) ∧ ∃ (i : Nat), vi = (i : Int) ∧ ∃ (qq : Nat) (uu : Wd) (n : Int), ((∃ s : Nat, (some (Value.ref qq)) = some (Value.ref s)) ∧ CS τ ad uu (bs) (ss) (pb) (P) (Q) (ct) ∧ KO τ w uu) ∧ w' = wset uu o (true, eO 9 [jJ n, .ref qq]))) := by
  refine th_intro [some (.ref (ad 100)), some (iI vi), some (iI y), some (.ref o), none] rfl (Nat.le_of_ble_eq_true rfl) pn_L ?_
  intro X C hT hH hRm hl htab hQ
  obtain ⟨hRf, hRl, hRc, hRs⟩ := hRm
  have hls : (xl X).stackTraces = false := by rw [hl]; exact hfl
  refine g_wf (fun hwf => ?_)
  refine g_aload_n C dL_pairText_0 rfl ?_
  refine g_aload_n C dL_pairText_1 rfl ?_
  refine g_iload_n C dL_pairText_2 rfl ?_
  refine g_iload_n C dL_pairText_3 rfl ?_
  by_cases hc1 : (0 ≤ vi ∧ vi ≤ 2)
  · obtain ⟨i, rfl⟩ : ∃ i : Nat, vi = (i : Int) := ⟨vi.toNat, by omega⟩
    refine t_callV C hT (s_X6_pairText _ hC0 (i := i) (y := y) (by omega) hy_y) (RcV.ob (ci := 8) C rfl hC0.o) rfl ml_RL_119 im_yX6_pairText se_RX6_yX6_pairText in_RX6 co_yX6_pairText hd_X6_pairText rfl ⟨by omega, by omega⟩ rfl (Nat.le_of_ble_eq_true rfl) ⟨by omega, by omega⟩ dL_pairText_4 (fun v uu hp => ?_)
    obtain ⟨qq, hzv⟩ : ∃ q : Nat, v = some (.ref q) := hp.1
    subst hzv
    have hko : KO τ w uu := hp.2.2
    have hO2 := hko.2 o _ (Or.inr hτ) hO
    refine g_putN (ci := 9) C rfl inTX7 tyX7 tyX7_ok nmX7 1 (by decide) hH.2.2.2.2.2.2.2 rfl rfl hO2 (Nat.le_of_ble_eq_true rfl) rfl rfl dL_pairText_7 ?_
    refine g_goto (tgt := 17) C dL_pairText_10 (by decide) ?_
    refine g_iconst C dL_pairText_17 ?_
    exact g_ireturn C hQ dL_pairText_18 (by omega) (by omega) (Or.inr ⟨hc1, rfl, i, rfl, qq, uu, _, hp, rfl⟩)
  · refine x_tryV C hT hH (x_X6_pairText_IO _ hls (a0 := ad 100) (p := vi) (q := y) h_vi  hc1) (RcV.ob (ci := 8) C rfl hC0.o) rfl ml_RL_119 im_yX6_pairText se_RX6_yX6_pairText in_RX6 co_yX6_pairText hd_X6_pairText rfl ⟨by omega, by omega⟩ rfl (Nat.le_of_ble_eq_true rfl) ⟨by omega, by omega⟩ dL_pairText_4 [] ⟨0, 10, 13, 19⟩ [] (by rw [htab]; rfl) (fun z hz => nomatch hz) (by decide) (by decide) kl_RL_19 hH.1 (fun q w2 hp => ?_)
    refine g_astore C dL_pairText_13 (by decide) rfl ?_
    refine g_iconst C dL_pairText_15 ?_
    exact g_ireturn C hQ dL_pairText_16 (by omega) (by omega) (Or.inl ⟨hc1, rfl, hp.1, hp.2⟩)
set_option maxHeartbeats 4000000 in
set_option maxRecDepth 100000 in
theorem w_L_pairNorm (l : Launch) {K : KC} {E : GE} {w : Wd} (hfl : l.stackTraces = false) {τ ad : Nat → Nat} {bs ss : Nat → Int} {pb : Nat → PT} {P Q : Nat → Nat} {ct : Nat → Int} (hC0 : CS τ ad w bs ss pb P Q ct) {o : Nat} (hτ : τ o = 199) {n0 : Int} {s0 : Value} (hO : w.2 o = some (true, eO 9 [jJ n0, s0])) {vi : Int} (h_vi : -2147483648 ≤ vi ∧ vi < 2147483648) : Th K E l yL_pairNorm cL_pairNorm 4 (some .int) [(0, 9, 12, 19)] 10 (61) (2600) [.ref (ad 100), iI vi, .ref o] w (fun r' w' => (¬ ((0 ≤ vi ∧ vi ≤ 2)) ∧ r' = some (iI 1) ∧ w.1 ≤ w'.1 ∧ w'.2 = w.2) ∨ (((0 ≤ vi ∧ vi ≤ 2)) ∧ r' = some (iI 0) ∧ ∃ (i : Nat), vi = (i : Int) ∧ ∃ (qq : Nat) (uu : Wd) (n : Int), ((∃ s : Nat, (some (Value.ref qq)) = some (Value.ref s)) ∧ CS τ ad uu (bs) (ss) (pb) (P) (Q) (ct) ∧ KO τ w uu) ∧ w' = wset uu o (true, eO 9 [jJ n, .ref qq]))) := by
  refine th_intro [some (.ref (ad 100)), some (iI vi), some (.ref o), none] rfl (Nat.le_of_ble_eq_true rfl) pn_L ?_
  intro X C hT hH hRm hl htab hQ
  obtain ⟨hRf, hRl, hRc, hRs⟩ := hRm
  have hls : (xl X).stackTraces = false := by rw [hl]; exact hfl
  refine g_wf (fun hwf => ?_)
  refine g_aload_n C dL_pairNorm_0 rfl ?_
  refine g_aload_n C dL_pairNorm_1 rfl ?_
  refine g_iload_n C dL_pairNorm_2 rfl ?_
  by_cases hc1 : (0 ≤ vi ∧ vi ≤ 2)
  · obtain ⟨i, rfl⟩ : ∃ i : Nat, vi = (i : Int) := ⟨vi.toNat, by omega⟩
    refine t_callV C hT (s_X6_pairNorm _ hC0 (i := i) (by omega)) (RcV.ob (ci := 8) C rfl hC0.o) rfl ml_RL_122 im_yX6_pairNorm se_RX6_yX6_pairNorm in_RX6 co_yX6_pairNorm hd_X6_pairNorm rfl ⟨by omega, by omega⟩ rfl (Nat.le_of_ble_eq_true rfl) ⟨by omega, by omega⟩ dL_pairNorm_3 (fun v uu hp => ?_)
    obtain ⟨qq, hzv⟩ : ∃ q : Nat, v = some (.ref q) := hp.1
    subst hzv
    have hko : KO τ w uu := hp.2.2
    have hO2 := hko.2 o _ (Or.inr hτ) hO
    refine g_putN (ci := 9) C rfl inTX7 tyX7 tyX7_ok nmX7 1 (by decide) hH.2.2.2.2.2.2.2 rfl rfl hO2 (Nat.le_of_ble_eq_true rfl) rfl rfl dL_pairNorm_6 ?_
    refine g_goto (tgt := 15) C dL_pairNorm_9 (by decide) ?_
    refine g_iconst C dL_pairNorm_15 ?_
    exact g_ireturn C hQ dL_pairNorm_16 (by omega) (by omega) (Or.inr ⟨hc1, rfl, i, rfl, qq, uu, _, hp, rfl⟩)
  · refine x_tryV C hT hH (x_X6_pairNorm_IO _ hls (a0 := ad 100) (p := vi) h_vi  hc1) (RcV.ob (ci := 8) C rfl hC0.o) rfl ml_RL_122 im_yX6_pairNorm se_RX6_yX6_pairNorm in_RX6 co_yX6_pairNorm hd_X6_pairNorm rfl ⟨by omega, by omega⟩ rfl (Nat.le_of_ble_eq_true rfl) ⟨by omega, by omega⟩ dL_pairNorm_3 [] ⟨0, 9, 12, 19⟩ [] (by rw [htab]; rfl) (fun z hz => nomatch hz) (by decide) (by decide) kl_RL_19 hH.1 (fun q w2 hp => ?_)
    refine g_astore_n C dL_pairNorm_12 (by decide) rfl ?_
    refine g_iconst C dL_pairNorm_13 ?_
    exact g_ireturn C hQ dL_pairNorm_14 (by omega) (by omega) (Or.inl ⟨hc1, rfl, hp.1, hp.2⟩)
set_option maxHeartbeats 4000000 in
set_option maxRecDepth 100000 in
theorem w_L_pairBits (l : Launch) {K : KC} {E : GE} {w : Wd} (hfl : l.stackTraces = false) {τ ad : Nat → Nat} {bs ss : Nat → Int} {pb : Nat → PT} {P Q : Nat → Nat} {ct : Nat → Int} (hC0 : CS τ ad w bs ss pb P Q ct) {o : Nat} (hτ : τ o = 199) {n0 : Int} {s0 : Value} (hO : w.2 o = some (true, eO 9 [jJ n0, s0])) {vi : Int} (h_vi : -2147483648 ≤ vi ∧ vi < 2147483648) {y : Int} (hy_y : y = 0 ∨ y = 1) {z : Int} (h_z : -2147483648 ≤ z ∧ z < 2147483648) : Th K E l yL_pairBits cL_pairBits 6 (some .int) [(0, 13, 16, 19), (0, 13, 20, 21)] 10 (1) (6) [.ref (ad 100), iI vi, iI y, iI z, .ref o] w (fun r' w' => (¬ ((0 ≤ vi ∧ vi ≤ 2)) ∧ r' = some (iI 1) ∧ w.1 ≤ w'.1 ∧ w'.2 = w.2) ∨ (((0 ≤ vi ∧ vi ≤ 2)) ∧ ¬ ((0 ≤ z ∧ z ≤ 2)) ∧ r' = some (iI 2) ∧ w.1 ≤ w'.1 ∧ w'.2 = w.2) ∨ (((0 ≤ vi ∧ vi ≤ 2)) ∧ ((0 ≤ z ∧ z ≤ 2)) ∧ r' = some (iI 0) ∧ ∃ (i : Nat), vi = (i : Int) ∧ ∃ (zz : Int) (uu : Wd) (sv : Value), (-2147483648 ≤ zz ∧ zz < 2147483648) ∧ ((some (iI zz)) = some (iI (bitV (sdV y (pb i)) z)) ∧ CS τ ad uu (bs) (ss) (pb) (P) (Q) (ct) ∧ KO τ w uu) ∧ w' = wset uu o (true, eO 9 [jJ zz, sv]))) := by
  refine th_intro [some (.ref (ad 100)), some (iI vi), some (iI y), some (iI z), some (.ref o), none] rfl (Nat.le_of_ble_eq_true rfl) pn_L ?_
  intro X C hT hH hRm hl htab hQ
  obtain ⟨hRf, hRl, hRc, hRs⟩ := hRm
  have hls : (xl X).stackTraces = false := by rw [hl]; exact hfl
  refine g_wf (fun hwf => ?_)
  refine g_aload C dL_pairBits_0 rfl ?_
  refine g_aload_n C dL_pairBits_2 rfl ?_
  refine g_iload_n C dL_pairBits_3 rfl ?_
  refine g_iload_n C dL_pairBits_4 rfl ?_
  refine g_iload_n C dL_pairBits_5 rfl ?_
  by_cases hc1 : (0 ≤ vi ∧ vi ≤ 2)
  · by_cases hc2 : (0 ≤ z ∧ z ≤ 2)
    · obtain ⟨i, rfl⟩ : ∃ i : Nat, vi = (i : Int) := ⟨vi.toNat, by omega⟩
      refine t_callV C hT (s_X6_pairBits _ hC0 (i := i) (y := y) (z := z) (by omega) hy_y (by omega)) (RcV.ob (ci := 8) C rfl hC0.o) rfl ml_RL_125 im_yX6_pairBits se_RX6_yX6_pairBits in_RX6 co_yX6_pairBits hd_X6_pairBits rfl ⟨by omega, by omega⟩ rfl (Nat.le_of_ble_eq_true rfl) ⟨by omega, by omega⟩ dL_pairBits_6 (fun v uu hp => ?_)
      obtain ⟨z0, hzv⟩ : ∃ z : Int, v = some (iI z) := ⟨_, hp.1⟩
      subst hzv
      obtain ⟨zz, hzz, hz1, hz2⟩ := gen32 (Int32.ofInt z0)
      rw [show iI z0 = iI zz from congrArg Value.int hzz] at hp ⊢
      have hz12 : -2147483648 ≤ zz ∧ zz < 2147483648 := ⟨hz1, hz2⟩
      have hko : KO τ w uu := hp.2.2
      have hO2 := hko.2 o _ (Or.inr hτ) hO
      refine g_i2l C dL_pairBits_9 hz12 ?_
      refine g_putN (ci := 9) C rfl inTX7 tyX7 tyX7_ok nmX7 0 (by decide) hH.2.2.2.2.2.2.1 rfl rfl hO2 (Nat.le_of_ble_eq_true rfl) rfl rfl dL_pairBits_10 ?_
      refine g_goto (tgt := 24) C dL_pairBits_13 (by decide) ?_
      refine g_iconst C dL_pairBits_24 ?_
      exact g_ireturn C hQ dL_pairBits_25 (by omega) (by omega) (Or.inr (Or.inr ⟨hc1, hc2, rfl, i, rfl, zz, uu, s0, hz12, hp, rfl⟩))
    · refine x_tryV C hT hH (x_X6_pairBits_IA _ hls (a0 := ad 100) (p := vi) (q := y) (r := z) h_vi h_z hc1 hc2) (RcV.ob (ci := 8) C rfl hC0.o) rfl ml_RL_125 im_yX6_pairBits se_RX6_yX6_pairBits in_RX6 co_yX6_pairBits hd_X6_pairBits rfl ⟨by omega, by omega⟩ rfl (Nat.le_of_ble_eq_true rfl) ⟨by omega, by omega⟩ dL_pairBits_6 [⟨0, 13, 16, 19⟩] ⟨0, 13, 20, 21⟩ [] (by rw [htab]; rfl) (fun z hz => by
          rw [List.mem_singleton.mp hz]
          exact Or.inr ⟨by decide, sIO, kl_RL_19, hH.2.2.1⟩) (by decide) (by decide) kl_RL_21 hH.2.1 (fun q w2 hp => ?_)
      refine g_astore C dL_pairBits_20 (by decide) rfl ?_
      refine g_iconst C dL_pairBits_22 ?_
      exact g_ireturn C hQ dL_pairBits_23 (by omega) (by omega) (Or.inr (Or.inl ⟨hc1, hc2, rfl, hp.1, hp.2⟩))
  · refine x_tryV C hT hH (x_X6_pairBits_IO _ hls (a0 := ad 100) (p := vi) (q := y) (r := z) h_vi h_z  hc1) (RcV.ob (ci := 8) C rfl hC0.o) rfl ml_RL_125 im_yX6_pairBits se_RX6_yX6_pairBits in_RX6 co_yX6_pairBits hd_X6_pairBits rfl ⟨by omega, by omega⟩ rfl (Nat.le_of_ble_eq_true rfl) ⟨by omega, by omega⟩ dL_pairBits_6 [] ⟨0, 13, 16, 19⟩ [⟨0, 13, 20, 21⟩] (by rw [htab]; rfl) (fun z hz => nomatch hz) (by decide) (by decide) kl_RL_19 hH.1 (fun q w2 hp => ?_)
    refine g_astore C dL_pairBits_16 (by decide) rfl ?_
    refine g_iconst C dL_pairBits_18 ?_
    exact g_ireturn C hQ dL_pairBits_19 (by omega) (by omega) (Or.inl ⟨hc1, rfl, hp.1, hp.2⟩)
set_option maxHeartbeats 4000000 in
set_option maxRecDepth 100000 in
theorem w_L_rank (l : Launch) {K : KC} {E : GE} {w : Wd} (hfl : l.stackTraces = false) {τ ad : Nat → Nat} {bs ss : Nat → Int} {pb : Nat → PT} {P Q : Nat → Nat} {ct : Nat → Int} (hC0 : CS τ ad w bs ss pb P Q ct) {o : Nat} (hτ : τ o = 199) {n0 : Int} {s0 : Value} (hO : w.2 o = some (true, eO 9 [jJ n0, s0])) {vi : Int} (h_vi : -2147483648 ≤ vi ∧ vi < 2147483648) : Th K E l yL_rank cL_rank 4 (some .int) [(0, 10, 13, 19)] 10 (1) (6) [.ref (ad 100), iI vi, .ref o] w (fun r' w' => (¬ ((0 ≤ vi ∧ vi ≤ 2)) ∧ r' = some (iI 1) ∧ w.1 ≤ w'.1 ∧ w'.2 = w.2) ∨ (((0 ≤ vi ∧ vi ≤ 2)) ∧ r' = some (iI 0) ∧ ∃ (i : Nat), vi = (i : Int) ∧ ∃ (zz : Int) (uu : Wd) (sv : Value), (-2147483648 ≤ zz ∧ zz < 2147483648) ∧ ((∃ x : Int, (some (iI zz)) = some (iI x) ∧ rnkP (pb i) x) ∧ (∃ pb' : Nat → PT, (∀ j, j < 3 → pb' j = pb j) ∧ CS τ ad uu (bs) (ss) (pb') (P) (Q) (ct)) ∧ KO τ w uu) ∧ w' = wset uu o (true, eO 9 [jJ zz, sv]))) := by
  refine th_intro [some (.ref (ad 100)), some (iI vi), some (.ref o), none] rfl (Nat.le_of_ble_eq_true rfl) pn_L ?_
  intro X C hT hH hRm hl htab hQ
  obtain ⟨hRf, hRl, hRc, hRs⟩ := hRm
  have hls : (xl X).stackTraces = false := by rw [hl]; exact hfl
  refine g_wf (fun hwf => ?_)
  refine g_aload_n C dL_rank_0 rfl ?_
  refine g_aload_n C dL_rank_1 rfl ?_
  refine g_iload_n C dL_rank_2 rfl ?_
  by_cases hc1 : (0 ≤ vi ∧ vi ≤ 2)
  · obtain ⟨i, rfl⟩ : ∃ i : Nat, vi = (i : Int) := ⟨vi.toNat, by omega⟩
    refine t_callV C hT (s_X6_rank _ hC0 (i := i) (by omega)) (RcV.ob (ci := 8) C rfl hC0.o) rfl ml_RL_128 im_yX6_rank se_RX6_yX6_rank in_RX6 co_yX6_rank hd_X6_rank rfl ⟨by omega, by omega⟩ rfl (Nat.le_of_ble_eq_true rfl) ⟨by omega, by omega⟩ dL_rank_3 (fun v uu hp => ?_)
    obtain ⟨z0, hzv⟩ : ∃ z : Int, v = some (iI z) := ⟨_, hp.1.choose_spec.1⟩
    subst hzv
    obtain ⟨zz, hzz, hz1, hz2⟩ := gen32 (Int32.ofInt z0)
    rw [show iI z0 = iI zz from congrArg Value.int hzz] at hp ⊢
    have hz12 : -2147483648 ≤ zz ∧ zz < 2147483648 := ⟨hz1, hz2⟩
    have hko : KO τ w uu := hp.2.2
    have hO2 := hko.2 o _ (Or.inr hτ) hO
    refine g_i2l C dL_rank_6 hz12 ?_
    refine g_putN (ci := 9) C rfl inTX7 tyX7 tyX7_ok nmX7 0 (by decide) hH.2.2.2.2.2.2.1 rfl rfl hO2 (Nat.le_of_ble_eq_true rfl) rfl rfl dL_rank_7 ?_
    refine g_goto (tgt := 16) C dL_rank_10 (by decide) ?_
    refine g_iconst C dL_rank_16 ?_
    exact g_ireturn C hQ dL_rank_17 (by omega) (by omega) (Or.inr ⟨hc1, rfl, i, rfl, zz, uu, s0, hz12, hp, rfl⟩)
  · refine x_tryV C hT hH (x_X6_rank_IO _ hls (a0 := ad 100) (p := vi) h_vi  hc1) (RcV.ob (ci := 8) C rfl hC0.o) rfl ml_RL_128 im_yX6_rank se_RX6_yX6_rank in_RX6 co_yX6_rank hd_X6_rank rfl ⟨by omega, by omega⟩ rfl (Nat.le_of_ble_eq_true rfl) ⟨by omega, by omega⟩ dL_rank_3 [] ⟨0, 10, 13, 19⟩ [] (by rw [htab]; rfl) (fun z hz => nomatch hz) (by decide) (by decide) kl_RL_19 hH.1 (fun q w2 hp => ?_)
    refine g_astore_n C dL_rank_13 (by decide) rfl ?_
    refine g_iconst C dL_rank_14 ?_
    exact g_ireturn C hQ dL_rank_15 (by omega) (by omega) (Or.inl ⟨hc1, rfl, hp.1, hp.2⟩)
set_option maxHeartbeats 4000000 in
set_option maxRecDepth 100000 in
theorem w_L_order (l : Launch) {K : KC} {E : GE} {w : Wd} (hfl : l.stackTraces = false) {τ ad : Nat → Nat} {bs ss : Nat → Int} {pb : Nat → PT} {P Q : Nat → Nat} {ct : Nat → Int} (hC0 : CS τ ad w bs ss pb P Q ct) {o : Nat} (hτ : τ o = 199) {n0 : Int} {s0 : Value} (hO : w.2 o = some (true, eO 9 [jJ n0, s0])) {vi : Int} (h_vi : -2147483648 ≤ vi ∧ vi < 2147483648) {vk : Int} (h_vk : -2147483648 ≤ vk ∧ vk < 2147483648) {y : Int} (hy_y : y = 0 ∨ y = 1) : Th K E l yL_order cL_order 6 (some .int) [(0, 13, 16, 19)] 10 (1) (6) [.ref (ad 100), iI vi, iI vk, iI y, .ref o] w (fun r' w' => (¬ ((0 ≤ vi ∧ vi ≤ 2) ∧ (0 ≤ vk ∧ vk ≤ 2)) ∧ r' = some (iI 1) ∧ w.1 ≤ w'.1 ∧ w'.2 = w.2) ∨ (((0 ≤ vi ∧ vi ≤ 2) ∧ (0 ≤ vk ∧ vk ≤ 2)) ∧ r' = some (iI 0) ∧ ∃ (i : Nat) (k : Nat), vi = (i : Int) ∧ vk = (k : Int) ∧ ∃ (zz : Int) (uu : Wd) (sv : Value), (-2147483648 ≤ zz ∧ zz < 2147483648) ∧ ((∃ x : Int, (some (iI zz)) = some (iI x) ∧ (sdV y (pb i) < sdV y (pb k) ∧ x = -1 ∨ sdV y (pb i) = sdV y (pb k) ∧ x = 0 ∨ sdV y (pb k) < sdV y (pb i) ∧ x = 1)) ∧ CS τ ad uu (bs) (ss) (pb) (P) (Q) (ct) ∧ KO τ w uu) ∧ w' = wset uu o (true, eO 9 [jJ zz, sv]))) := by
  refine th_intro [some (.ref (ad 100)), some (iI vi), some (iI vk), some (iI y), some (.ref o), none] rfl (Nat.le_of_ble_eq_true rfl) pn_L ?_
  intro X C hT hH hRm hl htab hQ
  obtain ⟨hRf, hRl, hRc, hRs⟩ := hRm
  have hls : (xl X).stackTraces = false := by rw [hl]; exact hfl
  refine g_wf (fun hwf => ?_)
  refine g_aload C dL_order_0 rfl ?_
  refine g_aload_n C dL_order_2 rfl ?_
  refine g_iload_n C dL_order_3 rfl ?_
  refine g_iload_n C dL_order_4 rfl ?_
  refine g_iload_n C dL_order_5 rfl ?_
  by_cases hc1 : (0 ≤ vi ∧ vi ≤ 2) ∧ (0 ≤ vk ∧ vk ≤ 2)
  · obtain ⟨i, rfl⟩ : ∃ i : Nat, vi = (i : Int) := ⟨vi.toNat, by omega⟩
    obtain ⟨k, rfl⟩ : ∃ k : Nat, vk = (k : Int) := ⟨vk.toNat, by omega⟩
    refine t_callV C hT (s_X6_order _ hC0 (i := i) (k := k) (y := y) (by omega) (by omega) hy_y) (RcV.ob (ci := 8) C rfl hC0.o) rfl ml_RL_131 im_yX6_order se_RX6_yX6_order in_RX6 co_yX6_order hd_X6_order rfl ⟨by omega, by omega⟩ rfl (Nat.le_of_ble_eq_true rfl) ⟨by omega, by omega⟩ dL_order_6 (fun v uu hp => ?_)
    obtain ⟨z0, hzv⟩ : ∃ z : Int, v = some (iI z) := ⟨_, hp.1.choose_spec.1⟩
    subst hzv
    obtain ⟨zz, hzz, hz1, hz2⟩ := gen32 (Int32.ofInt z0)
    rw [show iI z0 = iI zz from congrArg Value.int hzz] at hp ⊢
    have hz12 : -2147483648 ≤ zz ∧ zz < 2147483648 := ⟨hz1, hz2⟩
    have hko : KO τ w uu := hp.2.2
    have hO2 := hko.2 o _ (Or.inr hτ) hO
    refine g_i2l C dL_order_9 hz12 ?_
    refine g_putN (ci := 9) C rfl inTX7 tyX7 tyX7_ok nmX7 0 (by decide) hH.2.2.2.2.2.2.1 rfl rfl hO2 (Nat.le_of_ble_eq_true rfl) rfl rfl dL_order_10 ?_
    refine g_goto (tgt := 20) C dL_order_13 (by decide) ?_
    refine g_iconst C dL_order_20 ?_
    exact g_ireturn C hQ dL_order_21 (by omega) (by omega) (Or.inr ⟨hc1, rfl, i, k, rfl, rfl, zz, uu, s0, hz12, hp, rfl⟩)
  · refine x_tryV C hT hH (x_X6_order_IO _ hls (a0 := ad 100) (p := vi) (q := vk) (r := y) h_vi h_vk  hc1) (RcV.ob (ci := 8) C rfl hC0.o) rfl ml_RL_131 im_yX6_order se_RX6_yX6_order in_RX6 co_yX6_order hd_X6_order rfl ⟨by omega, by omega⟩ rfl (Nat.le_of_ble_eq_true rfl) ⟨by omega, by omega⟩ dL_order_6 [] ⟨0, 13, 16, 19⟩ [] (by rw [htab]; rfl) (fun z hz => nomatch hz) (by decide) (by decide) kl_RL_19 hH.1 (fun q w2 hp => ?_)
    refine g_astore C dL_order_16 (by decide) rfl ?_
    refine g_iconst C dL_order_18 ?_
    exact g_ireturn C hQ dL_order_19 (by omega) (by omega) (Or.inl ⟨hc1, rfl, hp.1, hp.2⟩)
set_option maxHeartbeats 4000000 in
set_option maxRecDepth 100000 in
theorem w_L_isSame (l : Launch) {K : KC} {E : GE} {w : Wd} (hfl : l.stackTraces = false) {τ ad : Nat → Nat} {bs ss : Nat → Int} {pb : Nat → PT} {P Q : Nat → Nat} {ct : Nat → Int} (hC0 : CS τ ad w bs ss pb P Q ct) {o : Nat} (hτ : τ o = 199) {n0 : Int} {s0 : Value} (hO : w.2 o = some (true, eO 9 [jJ n0, s0])) {vi : Int} (h_vi : -2147483648 ≤ vi ∧ vi < 2147483648) {vk : Int} (h_vk : -2147483648 ≤ vk ∧ vk < 2147483648) : Th K E l yL_isSame cL_isSame 5 (some .int) [(0, 18, 21, 19)] 10 (1) (6) [.ref (ad 100), iI vi, iI vk, .ref o] w (fun r' w' => (¬ ((0 ≤ vi ∧ vi ≤ 2) ∧ (0 ≤ vk ∧ vk ≤ 2)) ∧ r' = some (iI 1) ∧ w.1 ≤ w'.1 ∧ w'.2 = w.2) ∨ (((0 ≤ vi ∧ vi ≤ 2) ∧ (0 ≤ vk ∧ vk ≤ 2)) ∧ r' = some (iI 0) ∧ ∃ (i : Nat) (k : Nat), vi = (i : Int) ∧ vk = (k : Int) ∧ ∃ (zz : Int) (uu : Wd) (sv : Value), (-2147483648 ≤ zz ∧ zz < 2147483648) ∧ ((∃ x : Int, (some (iI zz)) = some (iI x) ∧ (x = 0 ∨ x = 1) ∧ x = bI ((pb i).1 = (pb k).1 ∧ (pb i).2.1 = (pb k).2.1 ∧ (pb i).2.2 = (pb k).2.2)) ∧ CS τ ad uu (bs) (ss) (pb) (P) (Q) (ct) ∧ KO τ w uu) ∧ w' = wset uu o (true, eO 9 [jJ zz, sv]))) := by
  refine th_intro [some (.ref (ad 100)), some (iI vi), some (iI vk), some (.ref o), none] rfl (Nat.le_of_ble_eq_true rfl) pn_L ?_
  intro X C hT hH hRm hl htab hQ
  obtain ⟨hRf, hRl, hRc, hRs⟩ := hRm
  have hls : (xl X).stackTraces = false := by rw [hl]; exact hfl
  refine g_wf (fun hwf => ?_)
  refine g_aload_n C dL_isSame_0 rfl ?_
  refine g_aload_n C dL_isSame_1 rfl ?_
  refine g_iload_n C dL_isSame_2 rfl ?_
  refine g_iload_n C dL_isSame_3 rfl ?_
  by_cases hc1 : (0 ≤ vi ∧ vi ≤ 2) ∧ (0 ≤ vk ∧ vk ≤ 2)
  · obtain ⟨i, rfl⟩ : ∃ i : Nat, vi = (i : Int) := ⟨vi.toNat, by omega⟩
    obtain ⟨k, rfl⟩ : ∃ k : Nat, vk = (k : Int) := ⟨vk.toNat, by omega⟩
    refine t_callV C hT (s_X6_isSame _ hC0 (i := i) (k := k) (by omega) (by omega)) (RcV.ob (ci := 8) C rfl hC0.o) rfl ml_RL_135 im_yX6_isSame se_RX6_yX6_isSame in_RX6 co_yX6_isSame hd_X6_isSame rfl ⟨by omega, by omega⟩ rfl (Nat.le_of_ble_eq_true rfl) ⟨by omega, by omega⟩ dL_isSame_4 (fun v uu hp => ?_)
    obtain ⟨z0, hzv⟩ : ∃ z : Int, v = some (iI z) := ⟨_, hp.1.choose_spec.1⟩
    subst hzv
    have hz01 : ∃ zz : Int, iI z0 = iI zz ∧ (zz = 0 ∨ zz = 1) := by
      obtain ⟨x9, h9, h10⟩ := hp.1
      exact ⟨x9, Option.some.inj h9, h10.1⟩
    obtain ⟨zz, hzz, hz01⟩ := hz01
    have hz12 : -2147483648 ≤ zz ∧ zz < 2147483648 := by omega
    rw [hzz] at hp ⊢
    have hko : KO τ w uu := hp.2.2
    have hO2 := hko.2 o _ (Or.inr hτ) hO
    rcases hz01 with q | q
    · subst q
      refine g_if_eq (tgt := 14) C dL_isSame_7 (by decide) (by omega) (fun _ => ?_) (fun h => (h rfl).elim)
      refine g_lconst (z := 0) C dL_isSame_14 (by decide) ?_
      refine g_putN (ci := 9) C rfl inTX7 tyX7 tyX7_ok nmX7 0 (by decide) hH.2.2.2.2.2.2.1 rfl rfl hO2 (Nat.le_of_ble_eq_true rfl) rfl rfl dL_isSame_15 ?_
      refine g_goto (tgt := 25) C dL_isSame_18 (by decide) ?_
      refine g_iconst C dL_isSame_25 ?_
      exact g_ireturn C hQ dL_isSame_26 (by omega) (by omega) (Or.inr ⟨hc1, rfl, i, k, rfl, rfl, _, uu, s0, hz12, hp, rfl⟩)
    · subst q
      refine g_if_eq (tgt := 14) C dL_isSame_7 (by decide) (by omega) (fun h => absurd h (by decide)) (fun _ => ?_)
      refine g_lconst (z := 1) C dL_isSame_10 (by decide) ?_
      refine g_goto (tgt := 15) C dL_isSame_11 (by decide) ?_
      refine g_putN (ci := 9) C rfl inTX7 tyX7 tyX7_ok nmX7 0 (by decide) hH.2.2.2.2.2.2.1 rfl rfl hO2 (Nat.le_of_ble_eq_true rfl) rfl rfl dL_isSame_15 ?_
      refine g_goto (tgt := 25) C dL_isSame_18 (by decide) ?_
      refine g_iconst C dL_isSame_25 ?_
      exact g_ireturn C hQ dL_isSame_26 (by omega) (by omega) (Or.inr ⟨hc1, rfl, i, k, rfl, rfl, _, uu, s0, hz12, hp, rfl⟩)
  · refine x_tryV C hT hH (x_X6_isSame_IO _ hls (a0 := ad 100) (p := vi) (q := vk) h_vi h_vk  hc1) (RcV.ob (ci := 8) C rfl hC0.o) rfl ml_RL_135 im_yX6_isSame se_RX6_yX6_isSame in_RX6 co_yX6_isSame hd_X6_isSame rfl ⟨by omega, by omega⟩ rfl (Nat.le_of_ble_eq_true rfl) ⟨by omega, by omega⟩ dL_isSame_4 [] ⟨0, 18, 21, 19⟩ [] (by rw [htab]; rfl) (fun z hz => nomatch hz) (by decide) (by decide) kl_RL_19 hH.1 (fun q w2 hp => ?_)
    refine g_astore C dL_isSame_21 (by decide) rfl ?_
    refine g_iconst C dL_isSame_23 ?_
    exact g_ireturn C hQ dL_isSame_24 (by omega) (by omega) (Or.inl ⟨hc1, rfl, hp.1, hp.2⟩)
set_option maxHeartbeats 4000000 in
set_option maxRecDepth 100000 in
theorem w_L_split (l : Launch) {K : KC} {E : GE} {w : Wd} (hfl : l.stackTraces = false) {τ ad : Nat → Nat} {bs ss : Nat → Int} {pb : Nat → PT} {P Q : Nat → Nat} {ct : Nat → Int} (hC0 : CS τ ad w bs ss pb P Q ct) {o : Nat} (hτ : τ o = 199) {n0 : Int} {s0 : Value} (hO : w.2 o = some (true, eO 9 [jJ n0, s0])) {vi : Int} (h_vi : -2147483648 ≤ vi ∧ vi < 2147483648) {vn : Int} (h_vn : -2147483648 ≤ vn ∧ vn < 2147483648) : Th K E l yL_split cL_split 5 (some .int) [(0, 11, 14, 19), (0, 11, 18, 21)] 10 (1) (6) [.ref (ad 100), iI vi, iI vn, .ref o] w (fun r' w' => (¬ ((0 ≤ vi ∧ vi ≤ 2)) ∧ r' = some (iI 1) ∧ w.1 ≤ w'.1 ∧ w'.2 = w.2) ∨ (((0 ≤ vi ∧ vi ≤ 2)) ∧ ¬ ((5 ≤ vn ∧ vn ≤ 997)) ∧ r' = some (iI 2) ∧ w.1 ≤ w'.1 ∧ w'.2 = w.2) ∨ (((0 ≤ vi ∧ vi ≤ 2)) ∧ ((5 ≤ vn ∧ vn ≤ 997)) ∧ r' = some (iI 0) ∧ ∃ (i : Nat) (n : Nat), vi = (i : Int) ∧ vn = (n : Int) ∧ ∃ (zz : Int) (uu : Wd) (sv : Value), (-2147483648 ≤ zz ∧ zz < 2147483648) ∧ (((¬ SPb n = true ∧ (some (iI zz)) = some (iI (-9)) ∧ CS τ ad uu (bs) (ss) (pb) (P) (Q) (iup ct 3 (ct 3 + 1))) ∨ (SPb n = true ∧ (some (iI zz)) = some (iI ((wit n : Nat) : Int)) ∧ CS τ ad uu (bs) (ss) (pb) (nup P i n) (nup Q i 0) (iup ct 2 (ct 2 + 1)))) ∧ KO τ w uu) ∧ w' = wset uu o (true, eO 9 [jJ zz, sv]))) := by
  refine th_intro [some (.ref (ad 100)), some (iI vi), some (iI vn), some (.ref o), none] rfl (Nat.le_of_ble_eq_true rfl) pn_L ?_
  intro X C hT hH hRm hl htab hQ
  obtain ⟨hRf, hRl, hRc, hRs⟩ := hRm
  have hls : (xl X).stackTraces = false := by rw [hl]; exact hfl
  refine g_wf (fun hwf => ?_)
  refine g_aload_n C dL_split_0 rfl ?_
  refine g_aload_n C dL_split_1 rfl ?_
  refine g_iload_n C dL_split_2 rfl ?_
  refine g_iload_n C dL_split_3 rfl ?_
  by_cases hc1 : (0 ≤ vi ∧ vi ≤ 2)
  · by_cases hc2 : (5 ≤ vn ∧ vn ≤ 997)
    · obtain ⟨i, rfl⟩ : ∃ i : Nat, vi = (i : Int) := ⟨vi.toNat, by omega⟩
      obtain ⟨n, rfl⟩ : ∃ n : Nat, vn = (n : Int) := ⟨vn.toNat, by omega⟩
      refine t_callV C hT (s_X6_split _ hC0 (i := i) (n := n) (by omega) (by omega)) (RcV.ob (ci := 8) C rfl hC0.o) rfl ml_RL_138 im_yX6_split se_RX6_yX6_split in_RX6 co_yX6_split hd_X6_split rfl ⟨by omega, by omega⟩ rfl (Nat.le_of_ble_eq_true rfl) ⟨by omega, by omega⟩ dL_split_4 (fun v uu hp => ?_)
      obtain ⟨z0, hzv⟩ : ∃ z : Int, v = some (iI z) := by
        rcases hp.1 with h | h
        · exact ⟨_, h.2.1⟩
        · exact ⟨_, h.2.1⟩
      subst hzv
      obtain ⟨zz, hzz, hz1, hz2⟩ := gen32 (Int32.ofInt z0)
      rw [show iI z0 = iI zz from congrArg Value.int hzz] at hp ⊢
      have hz12 : -2147483648 ≤ zz ∧ zz < 2147483648 := ⟨hz1, hz2⟩
      have hko : KO τ w uu := hp.2
      have hO2 := hko.2 o _ (Or.inr hτ) hO
      refine g_i2l C dL_split_7 hz12 ?_
      refine g_putN (ci := 9) C rfl inTX7 tyX7 tyX7_ok nmX7 0 (by decide) hH.2.2.2.2.2.2.1 rfl rfl hO2 (Nat.le_of_ble_eq_true rfl) rfl rfl dL_split_8 ?_
      refine g_goto (tgt := 22) C dL_split_11 (by decide) ?_
      refine g_iconst C dL_split_22 ?_
      exact g_ireturn C hQ dL_split_23 (by omega) (by omega) (Or.inr (Or.inr ⟨hc1, hc2, rfl, i, n, rfl, rfl, zz, uu, s0, hz12, hp, rfl⟩))
    · refine x_tryV C hT hH (x_X6_split_IA _ hls (a0 := ad 100) (p := vi) (q := vn) h_vi h_vn hc1 hc2) (RcV.ob (ci := 8) C rfl hC0.o) rfl ml_RL_138 im_yX6_split se_RX6_yX6_split in_RX6 co_yX6_split hd_X6_split rfl ⟨by omega, by omega⟩ rfl (Nat.le_of_ble_eq_true rfl) ⟨by omega, by omega⟩ dL_split_4 [⟨0, 11, 14, 19⟩] ⟨0, 11, 18, 21⟩ [] (by rw [htab]; rfl) (fun z hz => by
          rw [List.mem_singleton.mp hz]
          exact Or.inr ⟨by decide, sIO, kl_RL_19, hH.2.2.1⟩) (by decide) (by decide) kl_RL_21 hH.2.1 (fun q w2 hp => ?_)
      refine g_astore C dL_split_18 (by decide) rfl ?_
      refine g_iconst C dL_split_20 ?_
      exact g_ireturn C hQ dL_split_21 (by omega) (by omega) (Or.inr (Or.inl ⟨hc1, hc2, rfl, hp.1, hp.2⟩))
  · refine x_tryV C hT hH (x_X6_split_IO _ hls (a0 := ad 100) (p := vi) (q := vn) h_vi h_vn  hc1) (RcV.ob (ci := 8) C rfl hC0.o) rfl ml_RL_138 im_yX6_split se_RX6_yX6_split in_RX6 co_yX6_split hd_X6_split rfl ⟨by omega, by omega⟩ rfl (Nat.le_of_ble_eq_true rfl) ⟨by omega, by omega⟩ dL_split_4 [] ⟨0, 11, 14, 19⟩ [⟨0, 11, 18, 21⟩] (by rw [htab]; rfl) (fun z hz => nomatch hz) (by decide) (by decide) kl_RL_19 hH.1 (fun q w2 hp => ?_)
    refine g_astore C dL_split_14 (by decide) rfl ?_
    refine g_iconst C dL_split_16 ?_
    exact g_ireturn C hQ dL_split_17 (by omega) (by omega) (Or.inl ⟨hc1, rfl, hp.1, hp.2⟩)
set_option maxHeartbeats 4000000 in
set_option maxRecDepth 100000 in
theorem w_L_euclid (l : Launch) {K : KC} {E : GE} {w : Wd} (hfl : l.stackTraces = false) {τ ad : Nat → Nat} {bs ss : Nat → Int} {pb : Nat → PT} {P Q : Nat → Nat} {ct : Nat → Int} (hC0 : CS τ ad w bs ss pb P Q ct) {o : Nat} (hτ : τ o = 199) {n0 : Int} {s0 : Value} (hO : w.2 o = some (true, eO 9 [jJ n0, s0])) {vi : Int} (h_vi : -2147483648 ≤ vi ∧ vi < 2147483648) : Th K E l yL_euclid cL_euclid 4 (some .int) [(0, 10, 13, 19)] 10 (1) (6) [.ref (ad 100), iI vi, .ref o] w (fun r' w' => (¬ ((0 ≤ vi ∧ vi ≤ 2)) ∧ r' = some (iI 1) ∧ w.1 ≤ w'.1 ∧ w'.2 = w.2) ∨ (((0 ≤ vi ∧ vi ≤ 2)) ∧ r' = some (iI 0) ∧ ∃ (i : Nat), vi = (i : Int) ∧ ∃ (zz : Int) (uu : Wd) (sv : Value), (-2147483648 ≤ zz ∧ zz < 2147483648) ∧ ((((spS (P i) (Q i)).2.1 = 0 ∧ (some (iI zz)) = some (iI (-9)) ∧ CS τ ad uu (bs) (ss) (pb) (P) (Q) (iup ct 3 (ct 3 + 1))) ∨ ((spS (P i) (Q i)).2.1 ≠ 0 ∧ (some (iI zz)) = some (iI (spS (P i) (Q i + 1)).2.1) ∧ CS τ ad uu (bs) (ss) (pb) (P) (nup Q i (Q i + 1)) (iup ct 2 (ct 2 + 1)))) ∧ KO τ w uu) ∧ w' = wset uu o (true, eO 9 [jJ zz, sv]))) := by
  refine th_intro [some (.ref (ad 100)), some (iI vi), some (.ref o), none] rfl (Nat.le_of_ble_eq_true rfl) pn_L ?_
  intro X C hT hH hRm hl htab hQ
  obtain ⟨hRf, hRl, hRc, hRs⟩ := hRm
  have hls : (xl X).stackTraces = false := by rw [hl]; exact hfl
  refine g_wf (fun hwf => ?_)
  refine g_aload_n C dL_euclid_0 rfl ?_
  refine g_aload_n C dL_euclid_1 rfl ?_
  refine g_iload_n C dL_euclid_2 rfl ?_
  by_cases hc1 : (0 ≤ vi ∧ vi ≤ 2)
  · obtain ⟨i, rfl⟩ : ∃ i : Nat, vi = (i : Int) := ⟨vi.toNat, by omega⟩
    refine t_callV C hT (s_X6_euclid _ hC0 (i := i) (by omega)) (RcV.ob (ci := 8) C rfl hC0.o) rfl ml_RL_141 im_yX6_euclid se_RX6_yX6_euclid in_RX6 co_yX6_euclid hd_X6_euclid rfl ⟨by omega, by omega⟩ rfl (Nat.le_of_ble_eq_true rfl) ⟨by omega, by omega⟩ dL_euclid_3 (fun v uu hp => ?_)
    obtain ⟨z0, hzv⟩ : ∃ z : Int, v = some (iI z) := by
      rcases hp.1 with h | h
      · exact ⟨_, h.2.1⟩
      · exact ⟨_, h.2.1⟩
    subst hzv
    obtain ⟨zz, hzz, hz1, hz2⟩ := gen32 (Int32.ofInt z0)
    rw [show iI z0 = iI zz from congrArg Value.int hzz] at hp ⊢
    have hz12 : -2147483648 ≤ zz ∧ zz < 2147483648 := ⟨hz1, hz2⟩
    have hko : KO τ w uu := hp.2
    have hO2 := hko.2 o _ (Or.inr hτ) hO
    refine g_i2l C dL_euclid_6 hz12 ?_
    refine g_putN (ci := 9) C rfl inTX7 tyX7 tyX7_ok nmX7 0 (by decide) hH.2.2.2.2.2.2.1 rfl rfl hO2 (Nat.le_of_ble_eq_true rfl) rfl rfl dL_euclid_7 ?_
    refine g_goto (tgt := 16) C dL_euclid_10 (by decide) ?_
    refine g_iconst C dL_euclid_16 ?_
    exact g_ireturn C hQ dL_euclid_17 (by omega) (by omega) (Or.inr ⟨hc1, rfl, i, rfl, zz, uu, s0, hz12, hp, rfl⟩)
  · refine x_tryV C hT hH (x_X6_euclid_IO _ hls (a0 := ad 100) (p := vi) h_vi  hc1) (RcV.ob (ci := 8) C rfl hC0.o) rfl ml_RL_141 im_yX6_euclid se_RX6_yX6_euclid in_RX6 co_yX6_euclid hd_X6_euclid rfl ⟨by omega, by omega⟩ rfl (Nat.le_of_ble_eq_true rfl) ⟨by omega, by omega⟩ dL_euclid_3 [] ⟨0, 10, 13, 19⟩ [] (by rw [htab]; rfl) (fun z hz => nomatch hz) (by decide) (by decide) kl_RL_19 hH.1 (fun q w2 hp => ?_)
    refine g_astore_n C dL_euclid_13 (by decide) rfl ?_
    refine g_iconst C dL_euclid_14 ?_
    exact g_ireturn C hQ dL_euclid_15 (by omega) (by omega) (Or.inl ⟨hc1, rfl, hp.1, hp.2⟩)
set_option maxHeartbeats 4000000 in
set_option maxRecDepth 100000 in
theorem w_L_settle (l : Launch) {K : KC} {E : GE} {w : Wd} (hfl : l.stackTraces = false) {τ ad : Nat → Nat} {bs ss : Nat → Int} {pb : Nat → PT} {P Q : Nat → Nat} {ct : Nat → Int} (hC0 : CS τ ad w bs ss pb P Q ct) {o : Nat} (hτ : τ o = 199) {n0 : Int} {s0 : Value} (hO : w.2 o = some (true, eO 9 [jJ n0, s0])) {vi : Int} (h_vi : -2147483648 ≤ vi ∧ vi < 2147483648) : Th K E l yL_settle cL_settle 4 (some .int) [(0, 10, 13, 19)] 10 (1) (6) [.ref (ad 100), iI vi, .ref o] w (fun r' w' => (¬ ((0 ≤ vi ∧ vi ≤ 2)) ∧ r' = some (iI 1) ∧ w.1 ≤ w'.1 ∧ w'.2 = w.2) ∨ (((0 ≤ vi ∧ vi ≤ 2)) ∧ r' = some (iI 0) ∧ ∃ (i : Nat), vi = (i : Int) ∧ ∃ (zz : Int) (uu : Wd) (sv : Value), (-2147483648 ≤ zz ∧ zz < 2147483648) ∧ (∃ t, Q i ≤ t ∧ SV (P i) t ∧ (∀ j, Q i ≤ j → j < t → (spS (P i) j).2.1 ≠ 0 ∧ ((P i : Nat) : Int) ≤ (spS (P i) j).1 * (spS (P i) j).1) ∧ ((spS (P i) t).2.1 = 0 ∨ (spS (P i) t).1 * (spS (P i) t).1 < ((P i : Nat) : Int)) ∧ (some (iI zz)) = some (iI ((t - Q i : Nat) : Int)) ∧ CS τ ad uu (bs) (ss) (pb) (P) (nup Q i t) (iup ct 2 (ct 2 + 1)) ∧ KO τ w uu) ∧ w' = wset uu o (true, eO 9 [jJ zz, sv]))) := by
  refine th_intro [some (.ref (ad 100)), some (iI vi), some (.ref o), none] rfl (Nat.le_of_ble_eq_true rfl) pn_L ?_
  intro X C hT hH hRm hl htab hQ
  obtain ⟨hRf, hRl, hRc, hRs⟩ := hRm
  have hls : (xl X).stackTraces = false := by rw [hl]; exact hfl
  refine g_wf (fun hwf => ?_)
  refine g_aload_n C dL_settle_0 rfl ?_
  refine g_aload_n C dL_settle_1 rfl ?_
  refine g_iload_n C dL_settle_2 rfl ?_
  by_cases hc1 : (0 ≤ vi ∧ vi ≤ 2)
  · obtain ⟨i, rfl⟩ : ∃ i : Nat, vi = (i : Int) := ⟨vi.toNat, by omega⟩
    refine t_callV C hT (s_X6_settle _ hC0 (i := i) (by omega)) (RcV.ob (ci := 8) C rfl hC0.o) rfl ml_RL_144 im_yX6_settle se_RX6_yX6_settle in_RX6 co_yX6_settle hd_X6_settle rfl ⟨by omega, by omega⟩ rfl (Nat.le_of_ble_eq_true rfl) ⟨by omega, by omega⟩ dL_settle_3 (fun v uu hp => ?_)
    obtain ⟨z0, hzv⟩ : ∃ z : Int, v = some (iI z) := ⟨_, hp.choose_spec.2.2.2.2.1⟩
    subst hzv
    obtain ⟨zz, hzz, hz1, hz2⟩ := gen32 (Int32.ofInt z0)
    rw [show iI z0 = iI zz from congrArg Value.int hzz] at hp ⊢
    have hz12 : -2147483648 ≤ zz ∧ zz < 2147483648 := ⟨hz1, hz2⟩
    have hko : KO τ w uu := hp.choose_spec.2.2.2.2.2.2
    have hO2 := hko.2 o _ (Or.inr hτ) hO
    refine g_i2l C dL_settle_6 hz12 ?_
    refine g_putN (ci := 9) C rfl inTX7 tyX7 tyX7_ok nmX7 0 (by decide) hH.2.2.2.2.2.2.1 rfl rfl hO2 (Nat.le_of_ble_eq_true rfl) rfl rfl dL_settle_7 ?_
    refine g_goto (tgt := 16) C dL_settle_10 (by decide) ?_
    refine g_iconst C dL_settle_16 ?_
    exact g_ireturn C hQ dL_settle_17 (by omega) (by omega) (Or.inr ⟨hc1, rfl, i, rfl, zz, uu, s0, hz12, hp, rfl⟩)
  · refine x_tryV C hT hH (x_X6_settle_IO _ hls (a0 := ad 100) (p := vi) h_vi  hc1) (RcV.ob (ci := 8) C rfl hC0.o) rfl ml_RL_144 im_yX6_settle se_RX6_yX6_settle in_RX6 co_yX6_settle hd_X6_settle rfl ⟨by omega, by omega⟩ rfl (Nat.le_of_ble_eq_true rfl) ⟨by omega, by omega⟩ dL_settle_3 [] ⟨0, 10, 13, 19⟩ [] (by rw [htab]; rfl) (fun z hz => nomatch hz) (by decide) (by decide) kl_RL_19 hH.1 (fun q w2 hp => ?_)
    refine g_astore_n C dL_settle_13 (by decide) rfl ?_
    refine g_iconst C dL_settle_14 ?_
    exact g_ireturn C hQ dL_settle_15 (by omega) (by omega) (Or.inl ⟨hc1, rfl, hp.1, hp.2⟩)
set_option maxHeartbeats 4000000 in
set_option maxRecDepth 100000 in
theorem w_L_splitNumber (l : Launch) {K : KC} {E : GE} {w : Wd} (hfl : l.stackTraces = false) {τ ad : Nat → Nat} {bs ss : Nat → Int} {pb : Nat → PT} {P Q : Nat → Nat} {ct : Nat → Int} (hC0 : CS τ ad w bs ss pb P Q ct) {o : Nat} (hτ : τ o = 199) {n0 : Int} {s0 : Value} (hO : w.2 o = some (true, eO 9 [jJ n0, s0])) {vi : Int} (h_vi : -2147483648 ≤ vi ∧ vi < 2147483648) {z : Int} (h_z : -2147483648 ≤ z ∧ z < 2147483648) : Th K E l yL_splitNumber cL_splitNumber 5 (some .int) [(0, 11, 14, 19), (0, 11, 18, 21)] 10 (1) (6) [.ref (ad 100), iI vi, iI z, .ref o] w (fun r' w' => (¬ ((0 ≤ vi ∧ vi ≤ 2)) ∧ r' = some (iI 1) ∧ w.1 ≤ w'.1 ∧ w'.2 = w.2) ∨ (((0 ≤ vi ∧ vi ≤ 2)) ∧ ¬ ((0 ≤ z ∧ z ≤ 7)) ∧ r' = some (iI 2) ∧ w.1 ≤ w'.1 ∧ w'.2 = w.2) ∨ (((0 ≤ vi ∧ vi ≤ 2)) ∧ ((0 ≤ z ∧ z ≤ 7)) ∧ r' = some (iI 0) ∧ ∃ (i : Nat), vi = (i : Int) ∧ ∃ (zz : Int) (uu : Wd) (sv : Value), (-2147483648 ≤ zz ∧ zz < 2147483648) ∧ ((some (iI zz)) = some (iI (szV (spF (P i) (Q i)) z)) ∧ CS τ ad uu (bs) (ss) (pb) (P) (Q) (ct) ∧ KO τ w uu) ∧ w' = wset uu o (true, eO 9 [jJ zz, sv]))) := by
  refine th_intro [some (.ref (ad 100)), some (iI vi), some (iI z), some (.ref o), none] rfl (Nat.le_of_ble_eq_true rfl) pn_L ?_
  intro X C hT hH hRm hl htab hQ
  obtain ⟨hRf, hRl, hRc, hRs⟩ := hRm
  have hls : (xl X).stackTraces = false := by rw [hl]; exact hfl
  refine g_wf (fun hwf => ?_)
  refine g_aload_n C dL_splitNumber_0 rfl ?_
  refine g_aload_n C dL_splitNumber_1 rfl ?_
  refine g_iload_n C dL_splitNumber_2 rfl ?_
  refine g_iload_n C dL_splitNumber_3 rfl ?_
  by_cases hc1 : (0 ≤ vi ∧ vi ≤ 2)
  · by_cases hc2 : (0 ≤ z ∧ z ≤ 7)
    · obtain ⟨i, rfl⟩ : ∃ i : Nat, vi = (i : Int) := ⟨vi.toNat, by omega⟩
      refine t_callV C hT (s_X6_splitNumber _ hC0 (i := i) (z := z) (by omega) (by omega)) (RcV.ob (ci := 8) C rfl hC0.o) rfl ml_RL_147 im_yX6_splitNumber se_RX6_yX6_splitNumber in_RX6 co_yX6_splitNumber hd_X6_splitNumber rfl ⟨by omega, by omega⟩ rfl (Nat.le_of_ble_eq_true rfl) ⟨by omega, by omega⟩ dL_splitNumber_4 (fun v uu hp => ?_)
      obtain ⟨z0, hzv⟩ : ∃ z : Int, v = some (iI z) := ⟨_, hp.1⟩
      subst hzv
      obtain ⟨zz, hzz, hz1, hz2⟩ := gen32 (Int32.ofInt z0)
      rw [show iI z0 = iI zz from congrArg Value.int hzz] at hp ⊢
      have hz12 : -2147483648 ≤ zz ∧ zz < 2147483648 := ⟨hz1, hz2⟩
      have hko : KO τ w uu := hp.2.2
      have hO2 := hko.2 o _ (Or.inr hτ) hO
      refine g_i2l C dL_splitNumber_7 hz12 ?_
      refine g_putN (ci := 9) C rfl inTX7 tyX7 tyX7_ok nmX7 0 (by decide) hH.2.2.2.2.2.2.1 rfl rfl hO2 (Nat.le_of_ble_eq_true rfl) rfl rfl dL_splitNumber_8 ?_
      refine g_goto (tgt := 22) C dL_splitNumber_11 (by decide) ?_
      refine g_iconst C dL_splitNumber_22 ?_
      exact g_ireturn C hQ dL_splitNumber_23 (by omega) (by omega) (Or.inr (Or.inr ⟨hc1, hc2, rfl, i, rfl, zz, uu, s0, hz12, hp, rfl⟩))
    · refine x_tryV C hT hH (x_X6_splitNumber_IA _ hls (a0 := ad 100) (p := vi) (q := z) h_vi h_z hc1 hc2) (RcV.ob (ci := 8) C rfl hC0.o) rfl ml_RL_147 im_yX6_splitNumber se_RX6_yX6_splitNumber in_RX6 co_yX6_splitNumber hd_X6_splitNumber rfl ⟨by omega, by omega⟩ rfl (Nat.le_of_ble_eq_true rfl) ⟨by omega, by omega⟩ dL_splitNumber_4 [⟨0, 11, 14, 19⟩] ⟨0, 11, 18, 21⟩ [] (by rw [htab]; rfl) (fun z hz => by
          rw [List.mem_singleton.mp hz]
          exact Or.inr ⟨by decide, sIO, kl_RL_19, hH.2.2.1⟩) (by decide) (by decide) kl_RL_21 hH.2.1 (fun q w2 hp => ?_)
      refine g_astore C dL_splitNumber_18 (by decide) rfl ?_
      refine g_iconst C dL_splitNumber_20 ?_
      exact g_ireturn C hQ dL_splitNumber_21 (by omega) (by omega) (Or.inr (Or.inl ⟨hc1, hc2, rfl, hp.1, hp.2⟩))
  · refine x_tryV C hT hH (x_X6_splitNumber_IO _ hls (a0 := ad 100) (p := vi) (q := z) h_vi h_z  hc1) (RcV.ob (ci := 8) C rfl hC0.o) rfl ml_RL_147 im_yX6_splitNumber se_RX6_yX6_splitNumber in_RX6 co_yX6_splitNumber hd_X6_splitNumber rfl ⟨by omega, by omega⟩ rfl (Nat.le_of_ble_eq_true rfl) ⟨by omega, by omega⟩ dL_splitNumber_4 [] ⟨0, 11, 14, 19⟩ [⟨0, 11, 18, 21⟩] (by rw [htab]; rfl) (fun z hz => nomatch hz) (by decide) (by decide) kl_RL_19 hH.1 (fun q w2 hp => ?_)
    refine g_astore C dL_splitNumber_14 (by decide) rfl ?_
    refine g_iconst C dL_splitNumber_16 ?_
    exact g_ireturn C hQ dL_splitNumber_17 (by omega) (by omega) (Or.inl ⟨hc1, rfl, hp.1, hp.2⟩)
set_option maxHeartbeats 4000000 in
set_option maxRecDepth 100000 in
theorem w_L_way (l : Launch) {K : KC} {E : GE} {w : Wd} (hfl : l.stackTraces = false) {τ ad : Nat → Nat} {bs ss : Nat → Int} {pb : Nat → PT} {P Q : Nat → Nat} {ct : Nat → Int} (hC0 : CS τ ad w bs ss pb P Q ct) {o : Nat} (hτ : τ o = 199) {n0 : Int} {s0 : Value} (hO : w.2 o = some (true, eO 9 [jJ n0, s0])) {vi : Int} (h_vi : -2147483648 ≤ vi ∧ vi < 2147483648) : Th K E l yL_way cL_way 4 (some .int) [(0, 9, 12, 19)] 10 (20) (1000) [.ref (ad 100), iI vi, .ref o] w (fun r' w' => (¬ ((0 ≤ vi ∧ vi ≤ 2)) ∧ r' = some (iI 1) ∧ w.1 ≤ w'.1 ∧ w'.2 = w.2) ∨ (((0 ≤ vi ∧ vi ≤ 2)) ∧ r' = some (iI 0) ∧ ∃ (i : Nat), vi = (i : Int) ∧ ∃ (qq : Nat) (uu : Wd) (n : Int), ((∃ s : Nat, (some (Value.ref qq)) = some (Value.ref s)) ∧ (∃ P' Q' : Nat → Nat, (∀ j, j < 3 → P' j = P j ∧ Q' j = Q j) ∧ CS τ ad uu (bs) (ss) (pb) (P') (Q') (ct)) ∧ KO τ w uu) ∧ w' = wset uu o (true, eO 9 [jJ n, .ref qq]))) := by
  refine th_intro [some (.ref (ad 100)), some (iI vi), some (.ref o), none] rfl (Nat.le_of_ble_eq_true rfl) pn_L ?_
  intro X C hT hH hRm hl htab hQ
  obtain ⟨hRf, hRl, hRc, hRs⟩ := hRm
  have hls : (xl X).stackTraces = false := by rw [hl]; exact hfl
  refine g_wf (fun hwf => ?_)
  refine g_aload_n C dL_way_0 rfl ?_
  refine g_aload_n C dL_way_1 rfl ?_
  refine g_iload_n C dL_way_2 rfl ?_
  by_cases hc1 : (0 ≤ vi ∧ vi ≤ 2)
  · obtain ⟨i, rfl⟩ : ∃ i : Nat, vi = (i : Int) := ⟨vi.toNat, by omega⟩
    refine t_callV C hT (s_X6_way _ hC0 (i := i) (by omega)) (RcV.ob (ci := 8) C rfl hC0.o) rfl ml_RL_150 im_yX6_way se_RX6_yX6_way in_RX6 co_yX6_way hd_X6_way rfl ⟨by omega, by omega⟩ rfl (Nat.le_of_ble_eq_true rfl) ⟨by omega, by omega⟩ dL_way_3 (fun v uu hp => ?_)
    obtain ⟨qq, hzv⟩ : ∃ q : Nat, v = some (.ref q) := hp.1
    subst hzv
    have hko : KO τ w uu := hp.2.2
    have hO2 := hko.2 o _ (Or.inr hτ) hO
    refine g_putN (ci := 9) C rfl inTX7 tyX7 tyX7_ok nmX7 1 (by decide) hH.2.2.2.2.2.2.2 rfl rfl hO2 (Nat.le_of_ble_eq_true rfl) rfl rfl dL_way_6 ?_
    refine g_goto (tgt := 15) C dL_way_9 (by decide) ?_
    refine g_iconst C dL_way_15 ?_
    exact g_ireturn C hQ dL_way_16 (by omega) (by omega) (Or.inr ⟨hc1, rfl, i, rfl, qq, uu, _, hp, rfl⟩)
  · refine x_tryV C hT hH (x_X6_way_IO _ hls (a0 := ad 100) (p := vi) h_vi  hc1) (RcV.ob (ci := 8) C rfl hC0.o) rfl ml_RL_150 im_yX6_way se_RX6_yX6_way in_RX6 co_yX6_way hd_X6_way rfl ⟨by omega, by omega⟩ rfl (Nat.le_of_ble_eq_true rfl) ⟨by omega, by omega⟩ dL_way_3 [] ⟨0, 9, 12, 19⟩ [] (by rw [htab]; rfl) (fun z hz => nomatch hz) (by decide) (by decide) kl_RL_19 hH.1 (fun q w2 hp => ?_)
    refine g_astore_n C dL_way_12 (by decide) rfl ?_
    refine g_iconst C dL_way_13 ?_
    exact g_ireturn C hQ dL_way_14 (by omega) (by omega) (Or.inl ⟨hc1, rfl, hp.1, hp.2⟩)
set_option maxHeartbeats 4000000 in
set_option maxRecDepth 100000 in
theorem w_L_product (l : Launch) {K : KC} {E : GE} {w : Wd} (hfl : l.stackTraces = false) {τ ad : Nat → Nat} {bs ss : Nat → Int} {pb : Nat → PT} {P Q : Nat → Nat} {ct : Nat → Int} (hC0 : CS τ ad w bs ss pb P Q ct) {o : Nat} (hτ : τ o = 199) {n0 : Int} {s0 : Value} (hO : w.2 o = some (true, eO 9 [jJ n0, s0])) {vi : Int} (h_vi : -2147483648 ≤ vi ∧ vi < 2147483648) {vk : Int} (h_vk : -2147483648 ≤ vk ∧ vk < 2147483648) : Th K E l yL_product cL_product 5 (some .int) [(0, 10, 13, 19)] 10 (20) (2000) [.ref (ad 100), iI vi, iI vk, .ref o] w (fun r' w' => (¬ ((0 ≤ vi ∧ vi ≤ 2) ∧ (0 ≤ vk ∧ vk ≤ 2)) ∧ r' = some (iI 1) ∧ w.1 ≤ w'.1 ∧ w'.2 = w.2) ∨ (((0 ≤ vi ∧ vi ≤ 2) ∧ (0 ≤ vk ∧ vk ≤ 2)) ∧ r' = some (iI 0) ∧ ∃ (i : Nat) (k : Nat), vi = (i : Int) ∧ vk = (k : Int) ∧ ∃ (qq : Nat) (uu : Wd) (n : Int), ((∃ s : Nat, (some (Value.ref qq)) = some (Value.ref s)) ∧ (∃ P' Q' : Nat → Nat, (∀ j, j < 3 → P' j = P j ∧ Q' j = Q j) ∧ CS τ ad uu (bs) (ss) (pb) (P') (Q') (ct)) ∧ KO τ w uu) ∧ w' = wset uu o (true, eO 9 [jJ n, .ref qq]))) := by
  refine th_intro [some (.ref (ad 100)), some (iI vi), some (iI vk), some (.ref o), none] rfl (Nat.le_of_ble_eq_true rfl) pn_L ?_
  intro X C hT hH hRm hl htab hQ
  obtain ⟨hRf, hRl, hRc, hRs⟩ := hRm
  have hls : (xl X).stackTraces = false := by rw [hl]; exact hfl
  refine g_wf (fun hwf => ?_)
  refine g_aload_n C dL_product_0 rfl ?_
  refine g_aload_n C dL_product_1 rfl ?_
  refine g_iload_n C dL_product_2 rfl ?_
  refine g_iload_n C dL_product_3 rfl ?_
  by_cases hc1 : (0 ≤ vi ∧ vi ≤ 2) ∧ (0 ≤ vk ∧ vk ≤ 2)
  · obtain ⟨i, rfl⟩ : ∃ i : Nat, vi = (i : Int) := ⟨vi.toNat, by omega⟩
    obtain ⟨k, rfl⟩ : ∃ k : Nat, vk = (k : Int) := ⟨vk.toNat, by omega⟩
    refine t_callV C hT (s_X6_product _ hC0 (i := i) (k := k) (by omega) (by omega)) (RcV.ob (ci := 8) C rfl hC0.o) rfl ml_RL_153 im_yX6_product se_RX6_yX6_product in_RX6 co_yX6_product hd_X6_product rfl ⟨by omega, by omega⟩ rfl (Nat.le_of_ble_eq_true rfl) ⟨by omega, by omega⟩ dL_product_4 (fun v uu hp => ?_)
    obtain ⟨qq, hzv⟩ : ∃ q : Nat, v = some (.ref q) := hp.1
    subst hzv
    have hko : KO τ w uu := hp.2.2
    have hO2 := hko.2 o _ (Or.inr hτ) hO
    refine g_putN (ci := 9) C rfl inTX7 tyX7 tyX7_ok nmX7 1 (by decide) hH.2.2.2.2.2.2.2 rfl rfl hO2 (Nat.le_of_ble_eq_true rfl) rfl rfl dL_product_7 ?_
    refine g_goto (tgt := 17) C dL_product_10 (by decide) ?_
    refine g_iconst C dL_product_17 ?_
    exact g_ireturn C hQ dL_product_18 (by omega) (by omega) (Or.inr ⟨hc1, rfl, i, k, rfl, rfl, qq, uu, _, hp, rfl⟩)
  · refine x_tryV C hT hH (x_X6_product_IO _ hls (a0 := ad 100) (p := vi) (q := vk) h_vi h_vk  hc1) (RcV.ob (ci := 8) C rfl hC0.o) rfl ml_RL_153 im_yX6_product se_RX6_yX6_product in_RX6 co_yX6_product hd_X6_product rfl ⟨by omega, by omega⟩ rfl (Nat.le_of_ble_eq_true rfl) ⟨by omega, by omega⟩ dL_product_4 [] ⟨0, 10, 13, 19⟩ [] (by rw [htab]; rfl) (fun z hz => nomatch hz) (by decide) (by decide) kl_RL_19 hH.1 (fun q w2 hp => ?_)
    refine g_astore C dL_product_13 (by decide) rfl ?_
    refine g_iconst C dL_product_15 ?_
    exact g_ireturn C hQ dL_product_16 (by omega) (by omega) (Or.inl ⟨hc1, rfl, hp.1, hp.2⟩)
set_option maxHeartbeats 4000000 in
set_option maxRecDepth 100000 in
theorem w_L_symbol (l : Launch) {K : KC} {E : GE} {w : Wd} (hfl : l.stackTraces = false) {τ ad : Nat → Nat} {bs ss : Nat → Int} {pb : Nat → PT} {P Q : Nat → Nat} {ct : Nat → Int} (hC0 : CS τ ad w bs ss pb P Q ct) {o : Nat} (hτ : τ o = 199) {n0 : Int} {s0 : Value} (hO : w.2 o = some (true, eO 9 [jJ n0, s0])) {vi : Int} (h_vi : -2147483648 ≤ vi ∧ vi < 2147483648) {x : Int} (h_x : -2147483648 ≤ x ∧ x < 2147483648) : Th K E l yL_symbol cL_symbol 5 (some .int) [(0, 11, 14, 19), (0, 11, 18, 21)] 10 (1) (6) [.ref (ad 100), iI vi, iI x, .ref o] w (fun r' w' => (¬ ((0 ≤ vi ∧ vi ≤ 2)) ∧ r' = some (iI 1) ∧ w.1 ≤ w'.1 ∧ w'.2 = w.2) ∨ (((0 ≤ vi ∧ vi ≤ 2)) ∧ ¬ ((-999 ≤ x ∧ x ≤ 999)) ∧ r' = some (iI 2) ∧ w.1 ≤ w'.1 ∧ w'.2 = w.2) ∨ (((0 ≤ vi ∧ vi ≤ 2)) ∧ ((-999 ≤ x ∧ x ≤ 999)) ∧ r' = some (iI 0) ∧ ∃ (i : Nat), vi = (i : Int) ∧ ∃ (zz : Int) (uu : Wd) (sv : Value), (-2147483648 ≤ zz ∧ zz < 2147483648) ∧ ((some (iI zz)) = some (iI (if x % ((P i : Nat) : Int) = 0 then 0 else if pmN (x % ((P i : Nat) : Int)).toNat (P i) ((P i - 1) / 2) = 1 then 1 else -1)) ∧ CS τ ad uu (bs) (ss) (pb) (P) (Q) (ct) ∧ KO τ w uu) ∧ w' = wset uu o (true, eO 9 [jJ zz, sv]))) := by
  refine th_intro [some (.ref (ad 100)), some (iI vi), some (iI x), some (.ref o), none] rfl (Nat.le_of_ble_eq_true rfl) pn_L ?_
  intro X C hT hH hRm hl htab hQ
  obtain ⟨hRf, hRl, hRc, hRs⟩ := hRm
  have hls : (xl X).stackTraces = false := by rw [hl]; exact hfl
  refine g_wf (fun hwf => ?_)
  refine g_aload_n C dL_symbol_0 rfl ?_
  refine g_aload_n C dL_symbol_1 rfl ?_
  refine g_iload_n C dL_symbol_2 rfl ?_
  refine g_iload_n C dL_symbol_3 rfl ?_
  by_cases hc1 : (0 ≤ vi ∧ vi ≤ 2)
  · by_cases hc2 : (-999 ≤ x ∧ x ≤ 999)
    · obtain ⟨i, rfl⟩ : ∃ i : Nat, vi = (i : Int) := ⟨vi.toNat, by omega⟩
      refine t_callV C hT (s_X6_symbol _ hC0 (i := i) (x := x) (by omega) (by omega)) (RcV.ob (ci := 8) C rfl hC0.o) rfl ml_RL_156 im_yX6_symbol se_RX6_yX6_symbol in_RX6 co_yX6_symbol hd_X6_symbol rfl ⟨by omega, by omega⟩ rfl (Nat.le_of_ble_eq_true rfl) ⟨by omega, by omega⟩ dL_symbol_4 (fun v uu hp => ?_)
      obtain ⟨z0, hzv⟩ : ∃ z : Int, v = some (iI z) := ⟨_, hp.1⟩
      subst hzv
      obtain ⟨zz, hzz, hz1, hz2⟩ := gen32 (Int32.ofInt z0)
      rw [show iI z0 = iI zz from congrArg Value.int hzz] at hp ⊢
      have hz12 : -2147483648 ≤ zz ∧ zz < 2147483648 := ⟨hz1, hz2⟩
      have hko : KO τ w uu := hp.2.2
      have hO2 := hko.2 o _ (Or.inr hτ) hO
      refine g_i2l C dL_symbol_7 hz12 ?_
      refine g_putN (ci := 9) C rfl inTX7 tyX7 tyX7_ok nmX7 0 (by decide) hH.2.2.2.2.2.2.1 rfl rfl hO2 (Nat.le_of_ble_eq_true rfl) rfl rfl dL_symbol_8 ?_
      refine g_goto (tgt := 22) C dL_symbol_11 (by decide) ?_
      refine g_iconst C dL_symbol_22 ?_
      exact g_ireturn C hQ dL_symbol_23 (by omega) (by omega) (Or.inr (Or.inr ⟨hc1, hc2, rfl, i, rfl, zz, uu, s0, hz12, hp, rfl⟩))
    · refine x_tryV C hT hH (x_X6_symbol_IA _ hls (a0 := ad 100) (p := vi) (q := x) h_vi h_x hc1 hc2) (RcV.ob (ci := 8) C rfl hC0.o) rfl ml_RL_156 im_yX6_symbol se_RX6_yX6_symbol in_RX6 co_yX6_symbol hd_X6_symbol rfl ⟨by omega, by omega⟩ rfl (Nat.le_of_ble_eq_true rfl) ⟨by omega, by omega⟩ dL_symbol_4 [⟨0, 11, 14, 19⟩] ⟨0, 11, 18, 21⟩ [] (by rw [htab]; rfl) (fun z hz => by
          rw [List.mem_singleton.mp hz]
          exact Or.inr ⟨by decide, sIO, kl_RL_19, hH.2.2.1⟩) (by decide) (by decide) kl_RL_21 hH.2.1 (fun q w2 hp => ?_)
      refine g_astore C dL_symbol_18 (by decide) rfl ?_
      refine g_iconst C dL_symbol_20 ?_
      exact g_ireturn C hQ dL_symbol_21 (by omega) (by omega) (Or.inr (Or.inl ⟨hc1, hc2, rfl, hp.1, hp.2⟩))
  · refine x_tryV C hT hH (x_X6_symbol_IO _ hls (a0 := ad 100) (p := vi) (q := x) h_vi h_x  hc1) (RcV.ob (ci := 8) C rfl hC0.o) rfl ml_RL_156 im_yX6_symbol se_RX6_yX6_symbol in_RX6 co_yX6_symbol hd_X6_symbol rfl ⟨by omega, by omega⟩ rfl (Nat.le_of_ble_eq_true rfl) ⟨by omega, by omega⟩ dL_symbol_4 [] ⟨0, 11, 14, 19⟩ [⟨0, 11, 18, 21⟩] (by rw [htab]; rfl) (fun z hz => nomatch hz) (by decide) (by decide) kl_RL_19 hH.1 (fun q w2 hp => ?_)
    refine g_astore C dL_symbol_14 (by decide) rfl ?_
    refine g_iconst C dL_symbol_16 ?_
    exact g_ireturn C hQ dL_symbol_17 (by omega) (by omega) (Or.inl ⟨hc1, rfl, hp.1, hp.2⟩)
set_option maxHeartbeats 4000000 in
set_option maxRecDepth 100000 in
theorem w_L_inverse (l : Launch) {K : KC} {E : GE} {w : Wd} (hfl : l.stackTraces = false) {τ ad : Nat → Nat} {bs ss : Nat → Int} {pb : Nat → PT} {P Q : Nat → Nat} {ct : Nat → Int} (hC0 : CS τ ad w bs ss pb P Q ct) {o : Nat} (hτ : τ o = 199) {n0 : Int} {s0 : Value} (hO : w.2 o = some (true, eO 9 [jJ n0, s0])) {vi : Int} (h_vi : -2147483648 ≤ vi ∧ vi < 2147483648) {x : Int} (h_x : -2147483648 ≤ x ∧ x < 2147483648) : Th K E l yL_inverse cL_inverse 5 (some .int) [(0, 11, 14, 19), (0, 11, 18, 21)] 10 (1) (6) [.ref (ad 100), iI vi, iI x, .ref o] w (fun r' w' => (¬ ((0 ≤ vi ∧ vi ≤ 2)) ∧ r' = some (iI 1) ∧ w.1 ≤ w'.1 ∧ w'.2 = w.2) ∨ (((0 ≤ vi ∧ vi ≤ 2)) ∧ ¬ ((-999 ≤ x ∧ x ≤ 999)) ∧ r' = some (iI 2) ∧ w.1 ≤ w'.1 ∧ w'.2 = w.2) ∨ (((0 ≤ vi ∧ vi ≤ 2)) ∧ ((-999 ≤ x ∧ x ≤ 999)) ∧ r' = some (iI 0) ∧ ∃ (i : Nat), vi = (i : Int) ∧ ∃ (zz : Int) (uu : Wd) (sv : Value), (-2147483648 ≤ zz ∧ zz < 2147483648) ∧ ((some (iI zz)) = some (iI ((pmN (x % ((P i : Nat) : Int)).toNat (P i) (P i - 2) : Nat) : Int)) ∧ CS τ ad uu (bs) (ss) (pb) (P) (Q) (ct) ∧ KO τ w uu) ∧ w' = wset uu o (true, eO 9 [jJ zz, sv]))) := by
  refine th_intro [some (.ref (ad 100)), some (iI vi), some (iI x), some (.ref o), none] rfl (Nat.le_of_ble_eq_true rfl) pn_L ?_
  intro X C hT hH hRm hl htab hQ
  obtain ⟨hRf, hRl, hRc, hRs⟩ := hRm
  have hls : (xl X).stackTraces = false := by rw [hl]; exact hfl
  refine g_wf (fun hwf => ?_)
  refine g_aload_n C dL_inverse_0 rfl ?_
  refine g_aload_n C dL_inverse_1 rfl ?_
  refine g_iload_n C dL_inverse_2 rfl ?_
  refine g_iload_n C dL_inverse_3 rfl ?_
  by_cases hc1 : (0 ≤ vi ∧ vi ≤ 2)
  · by_cases hc2 : (-999 ≤ x ∧ x ≤ 999)
    · obtain ⟨i, rfl⟩ : ∃ i : Nat, vi = (i : Int) := ⟨vi.toNat, by omega⟩
      refine t_callV C hT (s_X6_inverse _ hC0 (i := i) (x := x) (by omega) (by omega)) (RcV.ob (ci := 8) C rfl hC0.o) rfl ml_RL_159 im_yX6_inverse se_RX6_yX6_inverse in_RX6 co_yX6_inverse hd_X6_inverse rfl ⟨by omega, by omega⟩ rfl (Nat.le_of_ble_eq_true rfl) ⟨by omega, by omega⟩ dL_inverse_4 (fun v uu hp => ?_)
      obtain ⟨z0, hzv⟩ : ∃ z : Int, v = some (iI z) := ⟨_, hp.1⟩
      subst hzv
      obtain ⟨zz, hzz, hz1, hz2⟩ := gen32 (Int32.ofInt z0)
      rw [show iI z0 = iI zz from congrArg Value.int hzz] at hp ⊢
      have hz12 : -2147483648 ≤ zz ∧ zz < 2147483648 := ⟨hz1, hz2⟩
      have hko : KO τ w uu := hp.2.2
      have hO2 := hko.2 o _ (Or.inr hτ) hO
      refine g_i2l C dL_inverse_7 hz12 ?_
      refine g_putN (ci := 9) C rfl inTX7 tyX7 tyX7_ok nmX7 0 (by decide) hH.2.2.2.2.2.2.1 rfl rfl hO2 (Nat.le_of_ble_eq_true rfl) rfl rfl dL_inverse_8 ?_
      refine g_goto (tgt := 22) C dL_inverse_11 (by decide) ?_
      refine g_iconst C dL_inverse_22 ?_
      exact g_ireturn C hQ dL_inverse_23 (by omega) (by omega) (Or.inr (Or.inr ⟨hc1, hc2, rfl, i, rfl, zz, uu, s0, hz12, hp, rfl⟩))
    · refine x_tryV C hT hH (x_X6_inverse_IA _ hls (a0 := ad 100) (p := vi) (q := x) h_vi h_x hc1 hc2) (RcV.ob (ci := 8) C rfl hC0.o) rfl ml_RL_159 im_yX6_inverse se_RX6_yX6_inverse in_RX6 co_yX6_inverse hd_X6_inverse rfl ⟨by omega, by omega⟩ rfl (Nat.le_of_ble_eq_true rfl) ⟨by omega, by omega⟩ dL_inverse_4 [⟨0, 11, 14, 19⟩] ⟨0, 11, 18, 21⟩ [] (by rw [htab]; rfl) (fun z hz => by
          rw [List.mem_singleton.mp hz]
          exact Or.inr ⟨by decide, sIO, kl_RL_19, hH.2.2.1⟩) (by decide) (by decide) kl_RL_21 hH.2.1 (fun q w2 hp => ?_)
      refine g_astore C dL_inverse_18 (by decide) rfl ?_
      refine g_iconst C dL_inverse_20 ?_
      exact g_ireturn C hQ dL_inverse_21 (by omega) (by omega) (Or.inr (Or.inl ⟨hc1, hc2, rfl, hp.1, hp.2⟩))
  · refine x_tryV C hT hH (x_X6_inverse_IO _ hls (a0 := ad 100) (p := vi) (q := x) h_vi h_x  hc1) (RcV.ob (ci := 8) C rfl hC0.o) rfl ml_RL_159 im_yX6_inverse se_RX6_yX6_inverse in_RX6 co_yX6_inverse hd_X6_inverse rfl ⟨by omega, by omega⟩ rfl (Nat.le_of_ble_eq_true rfl) ⟨by omega, by omega⟩ dL_inverse_4 [] ⟨0, 11, 14, 19⟩ [⟨0, 11, 18, 21⟩] (by rw [htab]; rfl) (fun z hz => nomatch hz) (by decide) (by decide) kl_RL_19 hH.1 (fun q w2 hp => ?_)
    refine g_astore C dL_inverse_14 (by decide) rfl ?_
    refine g_iconst C dL_inverse_16 ?_
    exact g_ireturn C hQ dL_inverse_17 (by omega) (by omega) (Or.inl ⟨hc1, rfl, hp.1, hp.2⟩)
set_option maxHeartbeats 4000000 in
set_option maxRecDepth 100000 in
theorem w_L_isPrime (l : Launch) {K : KC} {E : GE} {w : Wd} (hfl : l.stackTraces = false) {τ ad : Nat → Nat} {bs ss : Nat → Int} {pb : Nat → PT} {P Q : Nat → Nat} {ct : Nat → Int} (hC0 : CS τ ad w bs ss pb P Q ct) {o : Nat} (hτ : τ o = 199) {n0 : Int} {s0 : Value} (hO : w.2 o = some (true, eO 9 [jJ n0, s0])) {vn : Int} (h_vn : -2147483648 ≤ vn ∧ vn < 2147483648) : Th K E l yL_isPrime cL_isPrime 4 (some .int) [(0, 17, 20, 21)] 10 (1) (6) [.ref (ad 100), iI vn, .ref o] w (fun r' w' => (¬ ((0 ≤ vn ∧ vn ≤ 999)) ∧ r' = some (iI 1) ∧ w.1 ≤ w'.1 ∧ w'.2 = w.2) ∨ (((0 ≤ vn ∧ vn ≤ 999)) ∧ r' = some (iI 0) ∧ ∃ (n : Nat), vn = (n : Int) ∧ ∃ (zz : Int) (uu : Wd) (sv : Value), (-2147483648 ≤ zz ∧ zz < 2147483648) ∧ ((some (iI zz)) = some (iI (bI (2 ≤ n ∧ prB n = true))) ∧ CS τ ad uu (bs) (ss) (pb) (P) (Q) (ct) ∧ KO τ w uu) ∧ w' = wset uu o (true, eO 9 [jJ zz, sv]))) := by
  refine th_intro [some (.ref (ad 100)), some (iI vn), some (.ref o), none] rfl (Nat.le_of_ble_eq_true rfl) pn_L ?_
  intro X C hT hH hRm hl htab hQ
  obtain ⟨hRf, hRl, hRc, hRs⟩ := hRm
  have hls : (xl X).stackTraces = false := by rw [hl]; exact hfl
  refine g_wf (fun hwf => ?_)
  refine g_aload_n C dL_isPrime_0 rfl ?_
  refine g_aload_n C dL_isPrime_1 rfl ?_
  refine g_iload_n C dL_isPrime_2 rfl ?_
  by_cases hc2 : (0 ≤ vn ∧ vn ≤ 999)
  · obtain ⟨n, rfl⟩ : ∃ n : Nat, vn = (n : Int) := ⟨vn.toNat, by omega⟩
    refine t_callV C hT (s_X6_isPrime _ hC0 (n := n) (by omega)) (RcV.ob (ci := 8) C rfl hC0.o) rfl ml_RL_162 im_yX6_isPrime se_RX6_yX6_isPrime in_RX6 co_yX6_isPrime hd_X6_isPrime rfl ⟨by omega, by omega⟩ rfl (Nat.le_of_ble_eq_true rfl) ⟨by omega, by omega⟩ dL_isPrime_3 (fun v uu hp => ?_)
    obtain ⟨z0, hzv⟩ : ∃ z : Int, v = some (iI z) := ⟨_, hp.1⟩
    subst hzv
    have hz01 : ∃ zz : Int, iI z0 = iI zz ∧ (zz = 0 ∨ zz = 1) := by
      have h9 := Option.some.inj hp.1
      exact ⟨_, h9, bI_01 _⟩
    obtain ⟨zz, hzz, hz01⟩ := hz01
    have hz12 : -2147483648 ≤ zz ∧ zz < 2147483648 := by omega
    rw [hzz] at hp ⊢
    have hko : KO τ w uu := hp.2.2
    have hO2 := hko.2 o _ (Or.inr hτ) hO
    rcases hz01 with q | q
    · subst q
      refine g_if_eq (tgt := 13) C dL_isPrime_6 (by decide) (by omega) (fun _ => ?_) (fun h => (h rfl).elim)
      refine g_lconst (z := 0) C dL_isPrime_13 (by decide) ?_
      refine g_putN (ci := 9) C rfl inTX7 tyX7 tyX7_ok nmX7 0 (by decide) hH.2.2.2.2.2.2.1 rfl rfl hO2 (Nat.le_of_ble_eq_true rfl) rfl rfl dL_isPrime_14 ?_
      refine g_goto (tgt := 23) C dL_isPrime_17 (by decide) ?_
      refine g_iconst C dL_isPrime_23 ?_
      exact g_ireturn C hQ dL_isPrime_24 (by omega) (by omega) (Or.inr ⟨hc2, rfl, n, rfl, _, uu, s0, hz12, hp, rfl⟩)
    · subst q
      refine g_if_eq (tgt := 13) C dL_isPrime_6 (by decide) (by omega) (fun h => absurd h (by decide)) (fun _ => ?_)
      refine g_lconst (z := 1) C dL_isPrime_9 (by decide) ?_
      refine g_goto (tgt := 14) C dL_isPrime_10 (by decide) ?_
      refine g_putN (ci := 9) C rfl inTX7 tyX7 tyX7_ok nmX7 0 (by decide) hH.2.2.2.2.2.2.1 rfl rfl hO2 (Nat.le_of_ble_eq_true rfl) rfl rfl dL_isPrime_14 ?_
      refine g_goto (tgt := 23) C dL_isPrime_17 (by decide) ?_
      refine g_iconst C dL_isPrime_23 ?_
      exact g_ireturn C hQ dL_isPrime_24 (by omega) (by omega) (Or.inr ⟨hc2, rfl, n, rfl, _, uu, s0, hz12, hp, rfl⟩)
  · refine x_tryV C hT hH (x_X6_isPrime_IA _ hls (a0 := ad 100) (p := vn) h_vn  hc2) (RcV.ob (ci := 8) C rfl hC0.o) rfl ml_RL_162 im_yX6_isPrime se_RX6_yX6_isPrime in_RX6 co_yX6_isPrime hd_X6_isPrime rfl ⟨by omega, by omega⟩ rfl (Nat.le_of_ble_eq_true rfl) ⟨by omega, by omega⟩ dL_isPrime_3 [] ⟨0, 17, 20, 21⟩ [] (by rw [htab]; rfl) (fun z hz => nomatch hz) (by decide) (by decide) kl_RL_21 hH.2.1 (fun q w2 hp => ?_)
    refine g_astore_n C dL_isPrime_20 (by decide) rfl ?_
    refine g_iconst C dL_isPrime_21 ?_
    exact g_ireturn C hQ dL_isPrime_22 (by omega) (by omega) (Or.inl ⟨hc2, rfl, hp.1, hp.2⟩)
set_option maxHeartbeats 4000000 in
set_option maxRecDepth 100000 in
theorem w_L_house (l : Launch) {K : KC} {E : GE} {w : Wd} (hfl : l.stackTraces = false) {τ ad : Nat → Nat} {bs ss : Nat → Int} {pb : Nat → PT} {P Q : Nat → Nat} {ct : Nat → Int} (hC0 : CS τ ad w bs ss pb P Q ct) {o : Nat} (hτ : τ o = 199) {n0 : Int} {s0 : Value} (hO : w.2 o = some (true, eO 9 [jJ n0, s0])) {z : Int} (h_z : -2147483648 ≤ z ∧ z < 2147483648) : Th K E l yL_house cL_house 4 (some .int) [(0, 10, 13, 21)] 10 (1) (6) [.ref (ad 100), iI z, .ref o] w (fun r' w' => (¬ ((0 ≤ z ∧ z ≤ 4)) ∧ r' = some (iI 1) ∧ w.1 ≤ w'.1 ∧ w'.2 = w.2) ∨ (((0 ≤ z ∧ z ≤ 4)) ∧ r' = some (iI 0) ∧ ∃ (zz : Int) (uu : Wd) (sv : Value), (-2147483648 ≤ zz ∧ zz < 2147483648) ∧ ((some (iI zz)) = some (iI (ct z.toNat)) ∧ CS τ ad uu (bs) (ss) (pb) (P) (Q) (ct) ∧ KO τ w uu) ∧ w' = wset uu o (true, eO 9 [jJ zz, sv]))) := by
  refine th_intro [some (.ref (ad 100)), some (iI z), some (.ref o), none] rfl (Nat.le_of_ble_eq_true rfl) pn_L ?_
  intro X C hT hH hRm hl htab hQ
  obtain ⟨hRf, hRl, hRc, hRs⟩ := hRm
  have hls : (xl X).stackTraces = false := by rw [hl]; exact hfl
  refine g_wf (fun hwf => ?_)
  refine g_aload_n C dL_house_0 rfl ?_
  refine g_aload_n C dL_house_1 rfl ?_
  refine g_iload_n C dL_house_2 rfl ?_
  by_cases hc2 : (0 ≤ z ∧ z ≤ 4)
  · refine t_callV C hT (s_X6_house _ hC0 (z := z) (by omega)) (RcV.ob (ci := 8) C rfl hC0.o) rfl ml_RL_166 im_yX6_house se_RX6_yX6_house in_RX6 co_yX6_house hd_X6_house rfl ⟨by omega, by omega⟩ rfl (Nat.le_of_ble_eq_true rfl) ⟨by omega, by omega⟩ dL_house_3 (fun v uu hp => ?_)
    obtain ⟨z0, hzv⟩ : ∃ z : Int, v = some (iI z) := ⟨_, hp.1⟩
    subst hzv
    obtain ⟨zz, hzz, hz1, hz2⟩ := gen32 (Int32.ofInt z0)
    rw [show iI z0 = iI zz from congrArg Value.int hzz] at hp ⊢
    have hz12 : -2147483648 ≤ zz ∧ zz < 2147483648 := ⟨hz1, hz2⟩
    have hko : KO τ w uu := hp.2.2
    have hO2 := hko.2 o _ (Or.inr hτ) hO
    refine g_i2l C dL_house_6 hz12 ?_
    refine g_putN (ci := 9) C rfl inTX7 tyX7 tyX7_ok nmX7 0 (by decide) hH.2.2.2.2.2.2.1 rfl rfl hO2 (Nat.le_of_ble_eq_true rfl) rfl rfl dL_house_7 ?_
    refine g_goto (tgt := 16) C dL_house_10 (by decide) ?_
    refine g_iconst C dL_house_16 ?_
    exact g_ireturn C hQ dL_house_17 (by omega) (by omega) (Or.inr ⟨hc2, rfl, zz, uu, s0, hz12, hp, rfl⟩)
  · refine x_tryV C hT hH (x_X6_house_IA _ hls (a0 := ad 100) (p := z) h_z  hc2) (RcV.ob (ci := 8) C rfl hC0.o) rfl ml_RL_166 im_yX6_house se_RX6_yX6_house in_RX6 co_yX6_house hd_X6_house rfl ⟨by omega, by omega⟩ rfl (Nat.le_of_ble_eq_true rfl) ⟨by omega, by omega⟩ dL_house_3 [] ⟨0, 10, 13, 21⟩ [] (by rw [htab]; rfl) (fun z hz => nomatch hz) (by decide) (by decide) kl_RL_21 hH.2.1 (fun q w2 hp => ?_)
    refine g_astore_n C dL_house_13 (by decide) rfl ?_
    refine g_iconst C dL_house_14 ?_
    exact g_ireturn C hQ dL_house_15 (by omega) (by omega) (Or.inl ⟨hc2, rfl, hp.1, hp.2⟩)
/-! both sides at once: what holds between two calls of the law -/
def GD (ba st pm le ri : Nat → Int) (sp : Nat → Nat → Int) (cm : Nat → Int) (th : Int) (t : Nat) : Prop := (∀ i, i < 3 → GB (ba i)) ∧ (∀ i, i < 3 → 0 ≤ st i ∧ st i ≤ 24) ∧ HPp pm le ri ∧ HZp sp ∧ (0 ≤ th ∧ th ≤ 2) ∧ (∀ i, i < 5 → 0 ≤ cm i ∧ cm i ≤ (t : Int))
def RLx (bs ss : Nat → Int) (pb : Nat → PT) (P Q : Nat → Nat) (ct ba st pm le ri : Nat → Int) (sp : Nat → Nat → Int) (cm : Nat → Int) : Prop := (∀ i, i < 3 → bs i = ba i ∧ ss i = st i ∧ SpR (sp i) (P i) (Q i)) ∧ (∀ i, i < 3 → pb i = (pm i, le i, ri i)) ∧ (∀ i, i < 5 → ct i = cm i)
def OU (w : Wd) (o : Nat) : Prop := ∃ (n : Int) (s : Value), w.2 o = some (true, eO 9 [jJ n, s])
def INV (x m o t : Nat) (w : Wd) : Prop := ∃ (τ ad : Nat → Nat) (bs ss : Nat → Int) (pb : Nat → PT) (P Q : Nat → Nat) (ct : Nat → Int) (A : MA) (th : Int) (ba st pm le ri : Nat → Int) (sp : Nat → Nat → Int) (cm : Nat → Int),
  CS τ ad w bs ss pb P Q ct ∧ MSx τ w m A th ba st pm le ri sp cm ∧ ad 100 = x ∧ τ o = 199 ∧ OU w o ∧ GD ba st pm le ri sp cm th t ∧ RLx bs ss pb P Q ct ba st pm le ri sp cm
theorem GD.up {ba st pm le ri : Nat → Int} {sp : Nat → Nat → Int} {cm : Nat → Int} {th : Int} {t : Nat} (h : GD ba st pm le ri sp cm th t) : GD ba st pm le ri sp cm th (t + 1) := ⟨h.1, h.2.1, h.2.2.1, h.2.2.2.1, h.2.2.2.2.1, fun i hi => ⟨(h.2.2.2.2.2 i hi).1, by have := (h.2.2.2.2.2 i hi).2; omega⟩⟩
theorem cm_up {cm : Nat → Int} {t : Nat} (h : ∀ i, i < 5 → 0 ≤ cm i ∧ cm i ≤ (t : Int)) (j : Nat) : ∀ i, i < 5 → 0 ≤ iup cm j (cm j + 1) i ∧ iup cm j (cm j + 1) i ≤ ((t + 1 : Nat) : Int) := fun i hi => by
  have := h i hi
  by_cases q : i = j
  · subst q; rw [iup_s]; omega
  · rw [iup_n q]; omega
theorem cm_eq5 {cm : Nat → Int} {t : Nat} (h : ∀ i, i < 5 → 0 ≤ cm i ∧ cm i ≤ (t : Int)) : ∀ i, i < 5 → 0 ≤ cm i ∧ cm i ≤ ((t + 1 : Nat) : Int) := fun i hi => by
  have := h i hi
  omega
/-- the class's state and the model's, after the model's call -/
theorem inv_md {x m o t : Nat} {w1 w2 : Wd} {τ τ' ad : Nat → Nat} {bs ss : Nat → Int} {pb : Nat → PT} {P Q : Nat → Nat} {ct : Nat → Int} {A : MA} {th : Int} {ba st pm le ri : Nat → Int} {sp : Nat → Nat → Int} {cm : Nat → Int} (f1 : wF w1) (f2 : wF w2)
    (hC : CS τ ad w1 bs ss pb P Q ct) (hx : ad 100 = x) (ho : τ o = 199) (hO : OU w1 o) (hk : Keep τ w1 w2) (ht : ∀ a, a < w1.1 → τ' a = τ a) (hM : MSx τ' w2 m A th ba st pm le ri sp cm) (hg : GD ba st pm le ri sp cm th t) (hr : RLx bs ss pb P Q ct ba st pm le ri sp cm) : INV x m o t w2 := by
  obtain ⟨n, s, hO⟩ := hO
  have hC2 := hC.ke hk
  have lt := fun t (h1 : 100 ≤ t) (h2 : us t = true) => hC.lt f1 h1 h2
  have lo := f1 _ _ hO
  refine ⟨tam τ' w2.1, adm ad w2.1, bs, ss, pb, P, Q, ct, A, th, ba, st, pm, le, ri, sp, cm, hC2.retag (fun t h1 h2 => ⟨Nat.lt_of_lt_of_le (lt t h1 h2) hk.1, ht _ (lt t h1 h2)⟩), hM.tag f2 (fun a ha => if_pos ha), ?_, ?_, ⟨n, s, hk.2 o _ (by omega) hO⟩, hg, hr⟩
  · rw [adm_u (by omega)]; exact hx
  · show (if o < w2.1 then τ' o else o - w2.1) = 199
    rw [if_pos (Nat.lt_of_lt_of_le lo hk.1), ht o lo]
    exact ho
/-- what a call leaves that changes no walk and no split -/
def CALM (τ ad : Nat → Nat) (o : Nat) (w w1 : Wd) (bs ss : Nat → Int) (pb : Nat → PT) (P Q : Nat → Nat) (ct : Nat → Int) : Prop := ∃ (pb' : Nat → PT) (P' Q' : Nat → Nat), CS τ ad w1 bs ss pb' P' Q' ct ∧ (∀ j, j < 3 → P' j = P j ∧ Q' j = Q j) ∧ (∀ j, j < 3 → pb' j = pb j) ∧ KM τ w w1 ∧ OU w1 o
theorem calm_same {τ ad : Nat → Nat} {w w' : Wd} {o : Nat} {bs ss : Nat → Int} {pb : Nat → PT} {P Q : Nat → Nat} {ct : Nat → Int} (hC : CS τ ad w bs ss pb P Q ct) (hO : OU w o) (h1 : w.1 ≤ w'.1) (h2 : w'.2 = w.2) : CALM τ ad o w w' bs ss pb P Q ct := by
  obtain ⟨n, s, hO⟩ := hO
  exact ⟨pb, P, Q, hC.big h1 h2, fun _ _ => ⟨rfl, rfl⟩, fun _ _ => rfl, (KO.big h1 h2).km, n, s, by rw [h2]; exact hO⟩
theorem calm_set {τ ad : Nat → Nat} {w u : Wd} {o : Nat} {bs ss : Nat → Int} {pb pb' : Nat → PT} {P Q P' Q' : Nat → Nat} {ct : Nat → Int} (hC : CS τ ad u bs ss pb' P' Q' ct) (hp : ∀ j, j < 3 → P' j = P j ∧ Q' j = Q j) (hc : ∀ j, j < 3 → pb' j = pb j) (hk : KO τ w u) (ho : τ o = 199) (n : Int) (s : Value) : CALM τ ad o w (wset u o (true, eO 9 [jJ n, s])) bs ss pb P Q ct :=
  ⟨pb', P', Q', hC.out ho _, hp, hc, hk.km.out ho _, n, s, wset_s⟩
theorem calm_rl {bs ss : Nat → Int} {pb pb' : Nat → PT} {P Q P' Q' : Nat → Nat} {ct ba st pm le ri cm : Nat → Int} {sp : Nat → Nat → Int} (hr : RLx bs ss pb P Q ct ba st pm le ri sp cm) (hp : ∀ j, j < 3 → P' j = P j ∧ Q' j = Q j) (hc : ∀ j, j < 3 → pb' j = pb j) : RLx bs ss pb' P' Q' ct ba st pm le ri sp cm :=
  ⟨fun i hi => by
    obtain ⟨a, b, c⟩ := hr.1 i hi
    obtain ⟨d, e⟩ := hp i hi
    exact ⟨a, b, by rw [d, e]; exact c⟩, fun i hi => (hc i hi).trans (hr.2.1 i hi), hr.2.2⟩
/-- a calm call of the class, then an asking call of the model -/
theorem inv_ask {x m o t : Nat} {w w1 w2 : Wd} {τ ad : Nat → Nat} {bs ss : Nat → Int} {pb : Nat → PT} {P Q : Nat → Nat} {ct : Nat → Int} {A : MA} {th th' : Int} {ba st pm le ri : Nat → Int} {sp : Nat → Nat → Int} {cm : Nat → Int} (f1 : wF w1) (f2 : wF w2)
    (hc : CALM τ ad o w w1 bs ss pb P Q ct) (hx : ad 100 = x) (ho : τ o = 199) (hk : Keep τ w1 w2) (hM : MSx τ w2 m A th' ba st pm le ri sp cm) (h02 : 0 ≤ th' ∧ th' ≤ 2) (hg : GD ba st pm le ri sp cm th t) (hr : RLx bs ss pb P Q ct ba st pm le ri sp cm) : INV x m o (t + 1) w2 := by
  obtain ⟨pb', P', Q', hC, hp, hpb, hkm, hO⟩ := hc
  exact inv_md f1 f2 hC hx ho hO hk (fun _ _ => rfl) hM ⟨hg.1, hg.2.1, hg.2.2.1, hg.2.2.2.1, h02, cm_eq5 hg.2.2.2.2.2⟩ (calm_rl hr hp hpb)
set_option maxHeartbeats 1000000 in
theorem a_part {τ ad : Nat → Nat} {w w' : Wd} {o : Nat} {bs ss : Nat → Int} {pb : Nat → PT} {P Q : Nat → Nat} {ct : Nat → Int} (hC : CS τ ad w bs ss pb P Q ct) (ho : τ o = 199) (hO : OU w o) {vi z : Int} {r' : Option Value} (h : (¬ ((0 ≤ vi ∧ vi ≤ 2)) ∧ r' = some (iI 1) ∧ w.1 ≤ w'.1 ∧ w'.2 = w.2) ∨ (((0 ≤ vi ∧ vi ≤ 2)) ∧ ¬ ((0 ≤ z ∧ z ≤ 5)) ∧ r' = some (iI 2) ∧ w.1 ≤ w'.1 ∧ w'.2 = w.2) ∨ (((0 ≤ vi ∧ vi ≤ 2)) ∧ ((0 ≤ z ∧ z ≤ 5)) ∧ r' = some (iI 0) ∧ ∃ (i : Nat), vi = (i : Int) ∧ ∃ (zz : Int) (uu : Wd) (sv : Value), (-2147483648 ≤ zz ∧ zz < 2147483648) ∧ (∃ r, (some (iI zz)) = some (iI (prV (bs i) r (ss i) z)) ∧ RT (bs i) r ∧ CS τ ad uu (bs) (ss) (pb) (P) (Q) (ct) ∧ KO τ w uu) ∧ w' = wset uu o (true, eO 9 [jJ zz, sv]))) : (∃ k : Int, r' = some (iI k) ∧ 0 ≤ k ∧ k ≤ 2) ∧ CALM τ ad o w w' bs ss pb P Q ct := by
  rcases h with h | h | h
  · obtain ⟨-, rfl, h1, h2⟩ := h
    exact ⟨⟨1, rfl, by omega, by omega⟩, calm_same hC hO h1 h2⟩
  · obtain ⟨-, -, rfl, h1, h2⟩ := h
    exact ⟨⟨2, rfl, by omega, by omega⟩, calm_same hC hO h1 h2⟩
  · obtain ⟨-, -, rfl, i, -, zz, uu, sv, -, hp, rfl⟩ := h
    refine ⟨⟨0, rfl, by omega, by omega⟩, ?_⟩
    obtain ⟨r, -, -, hC2, hk2⟩ := hp
    exact calm_set hC2 (fun _ _ => ⟨rfl, rfl⟩) (fun _ _ => rfl) hk2 ho _ _
set_option maxHeartbeats 1000000 in
theorem a_walkText {τ ad : Nat → Nat} {w w' : Wd} {o : Nat} {bs ss : Nat → Int} {pb : Nat → PT} {P Q : Nat → Nat} {ct : Nat → Int} (hC : CS τ ad w bs ss pb P Q ct) (ho : τ o = 199) (hO : OU w o) {vi z rx : Int} {r' : Option Value} (h : (¬ ((0 ≤ vi ∧ vi ≤ 2)) ∧ r' = some (iI 1) ∧ w.1 ≤ w'.1 ∧ w'.2 = w.2) ∨ (((0 ≤ vi ∧ vi ≤ 2)) ∧ ¬ ((0 ≤ z ∧ z ≤ 3) ∧ (2 ≤ rx ∧ rx ≤ 16)) ∧ r' = some (iI 2) ∧ w.1 ≤ w'.1 ∧ w'.2 = w.2) ∨ (((0 ≤ vi ∧ vi ≤ 2)) ∧ ((0 ≤ z ∧ z ≤ 3) ∧ (2 ≤ rx ∧ rx ≤ 16)) ∧ r' = some (iI 0) ∧ ∃ (i : Nat), vi = (i : Int) ∧ ∃ (qq : Nat) (uu : Wd) (n : Int), ((∃ s : Nat, (some (Value.ref qq)) = some (Value.ref s)) ∧ CS τ ad uu (bs) (ss) (pb) (P) (Q) (ct) ∧ KO τ w uu) ∧ w' = wset uu o (true, eO 9 [jJ n, .ref qq]))) : (∃ k : Int, r' = some (iI k) ∧ 0 ≤ k ∧ k ≤ 2) ∧ CALM τ ad o w w' bs ss pb P Q ct := by
  rcases h with h | h | h
  · obtain ⟨-, rfl, h1, h2⟩ := h
    exact ⟨⟨1, rfl, by omega, by omega⟩, calm_same hC hO h1 h2⟩
  · obtain ⟨-, -, rfl, h1, h2⟩ := h
    exact ⟨⟨2, rfl, by omega, by omega⟩, calm_same hC hO h1 h2⟩
  · obtain ⟨-, -, rfl, i, -, qq, uu, nn, hp, rfl⟩ := h
    refine ⟨⟨0, rfl, by omega, by omega⟩, ?_⟩
    obtain ⟨-, hC2, hk2⟩ := hp
    exact calm_set hC2 (fun _ _ => ⟨rfl, rfl⟩) (fun _ _ => rfl) hk2 ho _ _
set_option maxHeartbeats 1000000 in
theorem a_test {τ ad : Nat → Nat} {w w' : Wd} {o : Nat} {bs ss : Nat → Int} {pb : Nat → PT} {P Q : Nat → Nat} {ct : Nat → Int} (hC : CS τ ad w bs ss pb P Q ct) (ho : τ o = 199) (hO : OU w o) {vi z : Int} {r' : Option Value} (h : (¬ ((0 ≤ vi ∧ vi ≤ 2)) ∧ r' = some (iI 1) ∧ w.1 ≤ w'.1 ∧ w'.2 = w.2) ∨ (((0 ≤ vi ∧ vi ≤ 2)) ∧ ¬ ((0 ≤ z ∧ z ≤ 2)) ∧ r' = some (iI 2) ∧ w.1 ≤ w'.1 ∧ w'.2 = w.2) ∨ (((0 ≤ vi ∧ vi ≤ 2)) ∧ ((0 ≤ z ∧ z ≤ 2)) ∧ r' = some (iI 0) ∧ ∃ (i : Nat), vi = (i : Int) ∧ ∃ (zz : Int) (uu : Wd) (sv : Value), (-2147483648 ≤ zz ∧ zz < 2147483648) ∧ ((∃ x : Int, (some (iI zz)) = some (iI x) ∧ ∃ r, RT (bs i) r ∧ x = tstV (bs i) r (ss i).toNat z) ∧ CS τ ad uu (bs) (ss) (pb) (P) (Q) (ct) ∧ KO τ w uu) ∧ w' = wset uu o (true, eO 9 [jJ zz, sv]))) : (∃ k : Int, r' = some (iI k) ∧ 0 ≤ k ∧ k ≤ 2) ∧ CALM τ ad o w w' bs ss pb P Q ct := by
  rcases h with h | h | h
  · obtain ⟨-, rfl, h1, h2⟩ := h
    exact ⟨⟨1, rfl, by omega, by omega⟩, calm_same hC hO h1 h2⟩
  · obtain ⟨-, -, rfl, h1, h2⟩ := h
    exact ⟨⟨2, rfl, by omega, by omega⟩, calm_same hC hO h1 h2⟩
  · obtain ⟨-, -, rfl, i, -, zz, uu, sv, -, hp, rfl⟩ := h
    refine ⟨⟨0, rfl, by omega, by omega⟩, ?_⟩
    obtain ⟨-, hC2, hk2⟩ := hp
    exact calm_set hC2 (fun _ _ => ⟨rfl, rfl⟩) (fun _ _ => rfl) hk2 ho _ _
set_option maxHeartbeats 1000000 in
theorem a_walkBits {τ ad : Nat → Nat} {w w' : Wd} {o : Nat} {bs ss : Nat → Int} {pb : Nat → PT} {P Q : Nat → Nat} {ct : Nat → Int} (hC : CS τ ad w bs ss pb P Q ct) (ho : τ o = 199) (hO : OU w o) {vi y z : Int} {r' : Option Value} (h : (¬ ((0 ≤ vi ∧ vi ≤ 2)) ∧ r' = some (iI 1) ∧ w.1 ≤ w'.1 ∧ w'.2 = w.2) ∨ (((0 ≤ vi ∧ vi ≤ 2)) ∧ ¬ ((0 ≤ z ∧ z ≤ 2)) ∧ r' = some (iI 2) ∧ w.1 ≤ w'.1 ∧ w'.2 = w.2) ∨ (((0 ≤ vi ∧ vi ≤ 2)) ∧ ((0 ≤ z ∧ z ≤ 2)) ∧ r' = some (iI 0) ∧ ∃ (i : Nat), vi = (i : Int) ∧ ∃ (zz : Int) (uu : Wd) (sv : Value), (-2147483648 ≤ zz ∧ zz < 2147483648) ∧ ((∃ x : Int, (some (iI zz)) = some (iI x) ∧ ∃ r, RT (bs i) r ∧ x = bitV (if y = 1 then (pq (bs i) r 1 r (ss i).toNat).1 else (pq (bs i) r 0 1 (ss i).toNat).1) z) ∧ CS τ ad uu (bs) (ss) (pb) (P) (Q) (ct) ∧ KO τ w uu) ∧ w' = wset uu o (true, eO 9 [jJ zz, sv]))) : (∃ k : Int, r' = some (iI k) ∧ 0 ≤ k ∧ k ≤ 2) ∧ CALM τ ad o w w' bs ss pb P Q ct := by
  rcases h with h | h | h
  · obtain ⟨-, rfl, h1, h2⟩ := h
    exact ⟨⟨1, rfl, by omega, by omega⟩, calm_same hC hO h1 h2⟩
  · obtain ⟨-, -, rfl, h1, h2⟩ := h
    exact ⟨⟨2, rfl, by omega, by omega⟩, calm_same hC hO h1 h2⟩
  · obtain ⟨-, -, rfl, i, -, zz, uu, sv, -, hp, rfl⟩ := h
    refine ⟨⟨0, rfl, by omega, by omega⟩, ?_⟩
    obtain ⟨-, hC2, hk2⟩ := hp
    exact calm_set hC2 (fun _ _ => ⟨rfl, rfl⟩) (fun _ _ => rfl) hk2 ho _ _
set_option maxHeartbeats 1000000 in
theorem a_bit {τ ad : Nat → Nat} {w w' : Wd} {o : Nat} {bs ss : Nat → Int} {pb : Nat → PT} {P Q : Nat → Nat} {ct : Nat → Int} (hC : CS τ ad w bs ss pb P Q ct) (ho : τ o = 199) (hO : OU w o) {vi y vz : Int} {r' : Option Value} (h : (¬ ((0 ≤ vi ∧ vi ≤ 2)) ∧ r' = some (iI 1) ∧ w.1 ≤ w'.1 ∧ w'.2 = w.2) ∨ (((0 ≤ vi ∧ vi ≤ 2)) ∧ ¬ ((0 ≤ vz ∧ vz ≤ 119)) ∧ r' = some (iI 2) ∧ w.1 ≤ w'.1 ∧ w'.2 = w.2) ∨ (((0 ≤ vi ∧ vi ≤ 2)) ∧ ((0 ≤ vz ∧ vz ≤ 119)) ∧ r' = some (iI 0) ∧ ∃ (i : Nat) (z : Nat), vi = (i : Int) ∧ vz = (z : Int) ∧ ∃ (zz : Int) (uu : Wd) (sv : Value), (-2147483648 ≤ zz ∧ zz < 2147483648) ∧ ((∃ x : Int, (some (iI zz)) = some (iI x) ∧ (x = 0 ∨ x = 1) ∧ ∃ r, RT (bs i) r ∧ x = bI (bt (aB (if y = 1 then (pq (bs i) r 1 r (ss i).toNat).1 else (pq (bs i) r 0 1 (ss i).toNat).1)) z = 1)) ∧ CS τ ad uu (bs) (ss) (pb) (P) (Q) (ct) ∧ KO τ w uu) ∧ w' = wset uu o (true, eO 9 [jJ zz, sv]))) : (∃ k : Int, r' = some (iI k) ∧ 0 ≤ k ∧ k ≤ 2) ∧ CALM τ ad o w w' bs ss pb P Q ct := by
  rcases h with h | h | h
  · obtain ⟨-, rfl, h1, h2⟩ := h
    exact ⟨⟨1, rfl, by omega, by omega⟩, calm_same hC hO h1 h2⟩
  · obtain ⟨-, -, rfl, h1, h2⟩ := h
    exact ⟨⟨2, rfl, by omega, by omega⟩, calm_same hC hO h1 h2⟩
  · obtain ⟨-, -, rfl, i, z, -, -, zz, uu, sv, -, hp, rfl⟩ := h
    refine ⟨⟨0, rfl, by omega, by omega⟩, ?_⟩
    obtain ⟨-, hC2, hk2⟩ := hp
    exact calm_set hC2 (fun _ _ => ⟨rfl, rfl⟩) (fun _ _ => rfl) hk2 ho _ _
set_option maxHeartbeats 1000000 in
theorem a_isRead {τ ad : Nat → Nat} {w w' : Wd} {o : Nat} {bs ss : Nat → Int} {pb : Nat → PT} {P Q : Nat → Nat} {ct : Nat → Int} (hC : CS τ ad w bs ss pb P Q ct) (ho : τ o = 199) (hO : OU w o) {vi z : Int} {r' : Option Value} (h : (¬ ((0 ≤ vi ∧ vi ≤ 2)) ∧ r' = some (iI 1) ∧ w.1 ≤ w'.1 ∧ w'.2 = w.2) ∨ (((0 ≤ vi ∧ vi ≤ 2)) ∧ ¬ ((z = 0 ∨ (2 ≤ z ∧ z ≤ 16))) ∧ r' = some (iI 2) ∧ w.1 ≤ w'.1 ∧ w'.2 = w.2) ∨ (((0 ≤ vi ∧ vi ≤ 2)) ∧ ((z = 0 ∨ (2 ≤ z ∧ z ≤ 16))) ∧ r' = some (iI 0) ∧ ∃ (i : Nat), vi = (i : Int) ∧ ∃ (zz : Int) (uu : Wd) (sv : Value), (-2147483648 ≤ zz ∧ zz < 2147483648) ∧ ((∃ x : Int, (some (iI zz)) = some (iI x) ∧ (x = 0 ∨ x = 1)) ∧ CS τ ad uu (bs) (ss) (pb) (P) (Q) (ct) ∧ KO τ w uu) ∧ w' = wset uu o (true, eO 9 [jJ zz, sv]))) : (∃ k : Int, r' = some (iI k) ∧ 0 ≤ k ∧ k ≤ 2) ∧ CALM τ ad o w w' bs ss pb P Q ct := by
  rcases h with h | h | h
  · obtain ⟨-, rfl, h1, h2⟩ := h
    exact ⟨⟨1, rfl, by omega, by omega⟩, calm_same hC hO h1 h2⟩
  · obtain ⟨-, -, rfl, h1, h2⟩ := h
    exact ⟨⟨2, rfl, by omega, by omega⟩, calm_same hC hO h1 h2⟩
  · obtain ⟨-, -, rfl, i, -, zz, uu, sv, -, hp, rfl⟩ := h
    refine ⟨⟨0, rfl, by omega, by omega⟩, ?_⟩
    obtain ⟨-, hC2, hk2⟩ := hp
    exact calm_set hC2 (fun _ _ => ⟨rfl, rfl⟩) (fun _ _ => rfl) hk2 ho _ _
set_option maxHeartbeats 1000000 in
theorem a_isNear {τ ad : Nat → Nat} {w w' : Wd} {o : Nat} {bs ss : Nat → Int} {pb : Nat → PT} {P Q : Nat → Nat} {ct : Nat → Int} (hC : CS τ ad w bs ss pb P Q ct) (ho : τ o = 199) (hO : OU w o) {vi z : Int} {r' : Option Value} (h : (¬ ((0 ≤ vi ∧ vi ≤ 2)) ∧ r' = some (iI 1) ∧ w.1 ≤ w'.1 ∧ w'.2 = w.2) ∨ (((0 ≤ vi ∧ vi ≤ 2)) ∧ ¬ ((1 ≤ z ∧ z ≤ 3)) ∧ r' = some (iI 2) ∧ w.1 ≤ w'.1 ∧ w'.2 = w.2) ∨ (((0 ≤ vi ∧ vi ≤ 2)) ∧ ((1 ≤ z ∧ z ≤ 3)) ∧ r' = some (iI 0) ∧ ∃ (i : Nat), vi = (i : Int) ∧ ∃ (zz : Int) (uu : Wd) (sv : Value), (-2147483648 ≤ zz ∧ zz < 2147483648) ∧ ((∃ x : Int, (some (iI zz)) = some (iI x) ∧ (x = 0 ∨ x = 1) ∧ ∃ r, RT (bs i) r ∧ (x = 1 ∧ nearP (bs i) r z (ss i).toNat ∨ x = 0 ∧ ¬ nearP (bs i) r z (ss i).toNat)) ∧ CS τ ad uu (bs) (ss) (pb) (P) (Q) (ct) ∧ KO τ w uu) ∧ w' = wset uu o (true, eO 9 [jJ zz, sv]))) : (∃ k : Int, r' = some (iI k) ∧ 0 ≤ k ∧ k ≤ 2) ∧ CALM τ ad o w w' bs ss pb P Q ct := by
  rcases h with h | h | h
  · obtain ⟨-, rfl, h1, h2⟩ := h
    exact ⟨⟨1, rfl, by omega, by omega⟩, calm_same hC hO h1 h2⟩
  · obtain ⟨-, -, rfl, h1, h2⟩ := h
    exact ⟨⟨2, rfl, by omega, by omega⟩, calm_same hC hO h1 h2⟩
  · obtain ⟨-, -, rfl, i, -, zz, uu, sv, -, hp, rfl⟩ := h
    refine ⟨⟨0, rfl, by omega, by omega⟩, ?_⟩
    obtain ⟨-, hC2, hk2⟩ := hp
    exact calm_set hC2 (fun _ _ => ⟨rfl, rfl⟩) (fun _ _ => rfl) hk2 ho _ _
set_option maxHeartbeats 1000000 in
theorem a_decimals {τ ad : Nat → Nat} {w w' : Wd} {o : Nat} {bs ss : Nat → Int} {pb : Nat → PT} {P Q : Nat → Nat} {ct : Nat → Int} (hC : CS τ ad w bs ss pb P Q ct) (ho : τ o = 199) (hO : OU w o) {vi vz : Int} {r' : Option Value} (h : (¬ ((0 ≤ vi ∧ vi ≤ 2)) ∧ r' = some (iI 1) ∧ w.1 ≤ w'.1 ∧ w'.2 = w.2) ∨ (((0 ≤ vi ∧ vi ≤ 2)) ∧ ¬ ((0 ≤ vz ∧ vz ≤ 16)) ∧ r' = some (iI 2) ∧ w.1 ≤ w'.1 ∧ w'.2 = w.2) ∨ (((0 ≤ vi ∧ vi ≤ 2)) ∧ ((0 ≤ vz ∧ vz ≤ 16)) ∧ r' = some (iI 0) ∧ ∃ (i : Nat) (z : Nat), vi = (i : Int) ∧ vz = (z : Int) ∧ ∃ (qq : Nat) (uu : Wd) (n : Int), ((∃ s : Nat, (some (Value.ref qq)) = some (Value.ref s)) ∧ CS τ ad uu (bs) (ss) (pb) (P) (Q) (ct) ∧ KO τ w uu) ∧ w' = wset uu o (true, eO 9 [jJ n, .ref qq]))) : (∃ k : Int, r' = some (iI k) ∧ 0 ≤ k ∧ k ≤ 2) ∧ CALM τ ad o w w' bs ss pb P Q ct := by
  rcases h with h | h | h
  · obtain ⟨-, rfl, h1, h2⟩ := h
    exact ⟨⟨1, rfl, by omega, by omega⟩, calm_same hC hO h1 h2⟩
  · obtain ⟨-, -, rfl, h1, h2⟩ := h
    exact ⟨⟨2, rfl, by omega, by omega⟩, calm_same hC hO h1 h2⟩
  · obtain ⟨-, -, rfl, i, z, -, -, qq, uu, nn, hp, rfl⟩ := h
    refine ⟨⟨0, rfl, by omega, by omega⟩, ?_⟩
    obtain ⟨-, hC2, hk2⟩ := hp
    exact calm_set hC2 (fun _ _ => ⟨rfl, rfl⟩) (fun _ _ => rfl) hk2 ho _ _
set_option maxHeartbeats 1000000 in
theorem a_alike {τ ad : Nat → Nat} {w w' : Wd} {o : Nat} {bs ss : Nat → Int} {pb : Nat → PT} {P Q : Nat → Nat} {ct : Nat → Int} (hC : CS τ ad w bs ss pb P Q ct) (ho : τ o = 199) (hO : OU w o) {vi : Int} {r' : Option Value} (h : (¬ ((0 ≤ vi ∧ vi ≤ 2)) ∧ r' = some (iI 1) ∧ w.1 ≤ w'.1 ∧ w'.2 = w.2) ∨ (((0 ≤ vi ∧ vi ≤ 2)) ∧ r' = some (iI 0) ∧ ∃ (i : Nat), vi = (i : Int) ∧ ∃ (zz : Int) (uu : Wd) (sv : Value), (-2147483648 ≤ zz ∧ zz < 2147483648) ∧ ((∃ x : Int, (some (iI zz)) = some (iI x) ∧ ∃ r, RT (bs i) r ∧ ∃ n : Nat, n ≤ 17 ∧ x = (n : Int) - 1 ∧ alkP (bs i) (pq (bs i) r 1 r (ss i).toNat).1 (pq (bs i) r 0 1 (ss i).toNat).1 n) ∧ CS τ ad uu (bs) (ss) (pb) (P) (Q) (ct) ∧ KO τ w uu) ∧ w' = wset uu o (true, eO 9 [jJ zz, sv]))) : (∃ k : Int, r' = some (iI k) ∧ 0 ≤ k ∧ k ≤ 2) ∧ CALM τ ad o w w' bs ss pb P Q ct := by
  rcases h with h | h
  · obtain ⟨-, rfl, h1, h2⟩ := h
    exact ⟨⟨1, rfl, by omega, by omega⟩, calm_same hC hO h1 h2⟩
  · obtain ⟨-, rfl, i, -, zz, uu, sv, -, hp, rfl⟩ := h
    refine ⟨⟨0, rfl, by omega, by omega⟩, ?_⟩
    obtain ⟨-, hC2, hk2⟩ := hp
    exact calm_set hC2 (fun _ _ => ⟨rfl, rfl⟩) (fun _ _ => rfl) hk2 ho _ _
set_option maxHeartbeats 1000000 in
theorem a_rootText {τ ad : Nat → Nat} {w w' : Wd} {o : Nat} {bs ss : Nat → Int} {pb : Nat → PT} {P Q : Nat → Nat} {ct : Nat → Int} (hC : CS τ ad w bs ss pb P Q ct) (ho : τ o = 199) (hO : OU w o) {b vz : Int} {r' : Option Value} (h : (¬ ((1 ≤ b ∧ b ≤ 99) ∧ (0 ≤ vz ∧ vz ≤ 16)) ∧ r' = some (iI 1) ∧ w.1 ≤ w'.1 ∧ w'.2 = w.2) ∨ (((1 ≤ b ∧ b ≤ 99) ∧ (0 ≤ vz ∧ vz ≤ 16)) ∧ r' = some (iI 0) ∧ ∃ (z : Nat), vz = (z : Int) ∧ ∃ (qq : Nat) (uu : Wd) (n : Int), ((∃ s : Nat, (some (Value.ref qq)) = some (Value.ref s)) ∧ CS τ ad uu (bs) (ss) (pb) (P) (Q) (ct) ∧ KO τ w uu) ∧ w' = wset uu o (true, eO 9 [jJ n, .ref qq]))) : (∃ k : Int, r' = some (iI k) ∧ 0 ≤ k ∧ k ≤ 2) ∧ CALM τ ad o w w' bs ss pb P Q ct := by
  rcases h with h | h
  · obtain ⟨-, rfl, h1, h2⟩ := h
    exact ⟨⟨1, rfl, by omega, by omega⟩, calm_same hC hO h1 h2⟩
  · obtain ⟨-, rfl, z, -, qq, uu, nn, hp, rfl⟩ := h
    refine ⟨⟨0, rfl, by omega, by omega⟩, ?_⟩
    obtain ⟨-, hC2, hk2⟩ := hp
    exact calm_set hC2 (fun _ _ => ⟨rfl, rfl⟩) (fun _ _ => rfl) hk2 ho _ _
set_option maxHeartbeats 1000000 in
theorem a_period {τ ad : Nat → Nat} {w w' : Wd} {o : Nat} {bs ss : Nat → Int} {pb : Nat → PT} {P Q : Nat → Nat} {ct : Nat → Int} (hC : CS τ ad w bs ss pb P Q ct) (ho : τ o = 199) (hO : OU w o) {b : Int} {r' : Option Value} (h : (¬ (GB b) ∧ r' = some (iI 1) ∧ w.1 ≤ w'.1 ∧ w'.2 = w.2) ∨ ((GB b) ∧ r' = some (iI 0) ∧ ∃ (zz : Int) (uu : Wd) (sv : Value), (-2147483648 ≤ zz ∧ zz < 2147483648) ∧ (∃ (r : Int) (p : Nat), (some (iI zz)) = some (iI (p : Int)) ∧ RT b r ∧ isPer b r p ∧ CS τ ad uu (bs) (ss) (pb) (P) (Q) (ct) ∧ KO τ w uu) ∧ w' = wset uu o (true, eO 9 [jJ zz, sv]))) : (∃ k : Int, r' = some (iI k) ∧ 0 ≤ k ∧ k ≤ 2) ∧ CALM τ ad o w w' bs ss pb P Q ct := by
  rcases h with h | h
  · obtain ⟨-, rfl, h1, h2⟩ := h
    exact ⟨⟨1, rfl, by omega, by omega⟩, calm_same hC hO h1 h2⟩
  · obtain ⟨-, rfl, zz, uu, sv, -, hp, rfl⟩ := h
    refine ⟨⟨0, rfl, by omega, by omega⟩, ?_⟩
    obtain ⟨r, p, -, -, -, hC2, hk2⟩ := hp
    exact calm_set hC2 (fun _ _ => ⟨rfl, rfl⟩) (fun _ _ => rfl) hk2 ho _ _
set_option maxHeartbeats 1000000 in
theorem a_periodText {τ ad : Nat → Nat} {w w' : Wd} {o : Nat} {bs ss : Nat → Int} {pb : Nat → PT} {P Q : Nat → Nat} {ct : Nat → Int} (hC : CS τ ad w bs ss pb P Q ct) (ho : τ o = 199) (hO : OU w o) {b : Int} {r' : Option Value} (h : (¬ (GB b) ∧ r' = some (iI 1) ∧ w.1 ≤ w'.1 ∧ w'.2 = w.2) ∨ ((GB b) ∧ r' = some (iI 0) ∧ ∃ (qq : Nat) (uu : Wd) (n : Int), ((∃ s : Nat, (some (Value.ref qq)) = some (Value.ref s)) ∧ CS τ ad uu (bs) (ss) (pb) (P) (Q) (ct) ∧ KO τ w uu) ∧ w' = wset uu o (true, eO 9 [jJ n, .ref qq]))) : (∃ k : Int, r' = some (iI k) ∧ 0 ≤ k ∧ k ≤ 2) ∧ CALM τ ad o w w' bs ss pb P Q ct := by
  rcases h with h | h
  · obtain ⟨-, rfl, h1, h2⟩ := h
    exact ⟨⟨1, rfl, by omega, by omega⟩, calm_same hC hO h1 h2⟩
  · obtain ⟨-, rfl, qq, uu, nn, hp, rfl⟩ := h
    refine ⟨⟨0, rfl, by omega, by omega⟩, ?_⟩
    obtain ⟨-, hC2, hk2⟩ := hp
    exact calm_set hC2 (fun _ _ => ⟨rfl, rfl⟩) (fun _ _ => rfl) hk2 ho _ _
set_option maxHeartbeats 1000000 in
theorem a_solution {τ ad : Nat → Nat} {w w' : Wd} {o : Nat} {bs ss : Nat → Int} {pb : Nat → PT} {P Q : Nat → Nat} {ct : Nat → Int} (hC : CS τ ad w bs ss pb P Q ct) (ho : τ o = 199) (hO : OU w o) {b y : Int} {r' : Option Value} (h : (¬ (GB b) ∧ r' = some (iI 1) ∧ w.1 ≤ w'.1 ∧ w'.2 = w.2) ∨ ((GB b) ∧ r' = some (iI 0) ∧ ∃ (qq : Nat) (uu : Wd) (n : Int), ((∃ s : Nat, (some (Value.ref qq)) = some (Value.ref s)) ∧ CS τ ad uu (bs) (ss) (pb) (P) (Q) (ct) ∧ KO τ w uu) ∧ w' = wset uu o (true, eO 9 [jJ n, .ref qq]))) : (∃ k : Int, r' = some (iI k) ∧ 0 ≤ k ∧ k ≤ 2) ∧ CALM τ ad o w w' bs ss pb P Q ct := by
  rcases h with h | h
  · obtain ⟨-, rfl, h1, h2⟩ := h
    exact ⟨⟨1, rfl, by omega, by omega⟩, calm_same hC hO h1 h2⟩
  · obtain ⟨-, rfl, qq, uu, nn, hp, rfl⟩ := h
    refine ⟨⟨0, rfl, by omega, by omega⟩, ?_⟩
    obtain ⟨-, hC2, hk2⟩ := hp
    exact calm_set hC2 (fun _ _ => ⟨rfl, rfl⟩) (fun _ _ => rfl) hk2 ho _ _
set_option maxHeartbeats 1000000 in
theorem a_minus {τ ad : Nat → Nat} {w w' : Wd} {o : Nat} {bs ss : Nat → Int} {pb : Nat → PT} {P Q : Nat → Nat} {ct : Nat → Int} (hC : CS τ ad w bs ss pb P Q ct) (ho : τ o = 199) (hO : OU w o) {b y : Int} {r' : Option Value} (h : (¬ (GB b) ∧ r' = some (iI 1) ∧ w.1 ≤ w'.1 ∧ w'.2 = w.2) ∨ ((GB b) ∧ r' = some (iI 0) ∧ ∃ (qq : Nat) (uu : Wd) (n : Int), ((∃ s : Nat, (some (Value.ref qq)) = some (Value.ref s)) ∧ CS τ ad uu (bs) (ss) (pb) (P) (Q) (ct) ∧ KO τ w uu) ∧ w' = wset uu o (true, eO 9 [jJ n, .ref qq]))) : (∃ k : Int, r' = some (iI k) ∧ 0 ≤ k ∧ k ≤ 2) ∧ CALM τ ad o w w' bs ss pb P Q ct := by
  rcases h with h | h
  · obtain ⟨-, rfl, h1, h2⟩ := h
    exact ⟨⟨1, rfl, by omega, by omega⟩, calm_same hC hO h1 h2⟩
  · obtain ⟨-, rfl, qq, uu, nn, hp, rfl⟩ := h
    refine ⟨⟨0, rfl, by omega, by omega⟩, ?_⟩
    obtain ⟨-, hC2, hk2⟩ := hp
    exact calm_set hC2 (fun _ _ => ⟨rfl, rfl⟩) (fun _ _ => rfl) hk2 ho _ _
set_option maxHeartbeats 1000000 in
theorem a_middle {τ ad : Nat → Nat} {w w' : Wd} {o : Nat} {bs ss : Nat → Int} {pb : Nat → PT} {P Q : Nat → Nat} {ct : Nat → Int} (hC : CS τ ad w bs ss pb P Q ct) (ho : τ o = 199) (hO : OU w o) {b : Int} {r' : Option Value} (h : (¬ (GB b) ∧ r' = some (iI 1) ∧ w.1 ≤ w'.1 ∧ w'.2 = w.2) ∨ ((GB b) ∧ r' = some (iI 0) ∧ ∃ (qq : Nat) (uu : Wd) (n : Int), ((∃ s : Nat, (some (Value.ref qq)) = some (Value.ref s)) ∧ CS τ ad uu (bs) (ss) (pb) (P) (Q) (ct) ∧ KO τ w uu) ∧ w' = wset uu o (true, eO 9 [jJ n, .ref qq]))) : (∃ k : Int, r' = some (iI k) ∧ 0 ≤ k ∧ k ≤ 2) ∧ CALM τ ad o w w' bs ss pb P Q ct := by
  rcases h with h | h
  · obtain ⟨-, rfl, h1, h2⟩ := h
    exact ⟨⟨1, rfl, by omega, by omega⟩, calm_same hC hO h1 h2⟩
  · obtain ⟨-, rfl, qq, uu, nn, hp, rfl⟩ := h
    refine ⟨⟨0, rfl, by omega, by omega⟩, ?_⟩
    obtain ⟨-, hC2, hk2⟩ := hp
    exact calm_set hC2 (fun _ _ => ⟨rfl, rfl⟩) (fun _ _ => rfl) hk2 ho _ _
set_option maxHeartbeats 1000000 in
theorem a_pairBase {τ ad : Nat → Nat} {w w' : Wd} {o : Nat} {bs ss : Nat → Int} {pb : Nat → PT} {P Q : Nat → Nat} {ct : Nat → Int} (hC : CS τ ad w bs ss pb P Q ct) (ho : τ o = 199) (hO : OU w o) {vi : Int} {r' : Option Value} (h : (¬ ((0 ≤ vi ∧ vi ≤ 2)) ∧ r' = some (iI 1) ∧ w.1 ≤ w'.1 ∧ w'.2 = w.2) ∨ (((0 ≤ vi ∧ vi ≤ 2)) ∧ r' = some (iI 0) ∧ ∃ (i : Nat), vi = (i : Int) ∧ ∃ (zz : Int) (uu : Wd) (sv : Value), (-2147483648 ≤ zz ∧ zz < 2147483648) ∧ ((some (iI zz)) = some (iI (pb i).1) ∧ CS τ ad uu (bs) (ss) (pb) (P) (Q) (ct) ∧ KO τ w uu) ∧ w' = wset uu o (true, eO 9 [jJ zz, sv]))) : (∃ k : Int, r' = some (iI k) ∧ 0 ≤ k ∧ k ≤ 2) ∧ CALM τ ad o w w' bs ss pb P Q ct := by
  rcases h with h | h
  · obtain ⟨-, rfl, h1, h2⟩ := h
    exact ⟨⟨1, rfl, by omega, by omega⟩, calm_same hC hO h1 h2⟩
  · obtain ⟨-, rfl, i, -, zz, uu, sv, -, hp, rfl⟩ := h
    refine ⟨⟨0, rfl, by omega, by omega⟩, ?_⟩
    obtain ⟨-, hC2, hk2⟩ := hp
    exact calm_set hC2 (fun _ _ => ⟨rfl, rfl⟩) (fun _ _ => rfl) hk2 ho _ _
set_option maxHeartbeats 1000000 in
theorem a_pairText {τ ad : Nat → Nat} {w w' : Wd} {o : Nat} {bs ss : Nat → Int} {pb : Nat → PT} {P Q : Nat → Nat} {ct : Nat → Int} (hC : CS τ ad w bs ss pb P Q ct) (ho : τ o = 199) (hO : OU w o) {vi y : Int} {r' : Option Value} (h : (¬ ((0 ≤ vi ∧ vi ≤ 2)) ∧ r' = some (iI 1) ∧ w.1 ≤ w'.1 ∧ w'.2 = w.2) ∨ (((0 ≤ vi ∧ vi ≤ 2)) ∧ r' = some (iI 0) ∧ ∃ (i : Nat), vi = (i : Int) ∧ ∃ (qq : Nat) (uu : Wd) (n : Int), ((∃ s : Nat, (some (Value.ref qq)) = some (Value.ref s)) ∧ CS τ ad uu (bs) (ss) (pb) (P) (Q) (ct) ∧ KO τ w uu) ∧ w' = wset uu o (true, eO 9 [jJ n, .ref qq]))) : (∃ k : Int, r' = some (iI k) ∧ 0 ≤ k ∧ k ≤ 2) ∧ CALM τ ad o w w' bs ss pb P Q ct := by
  rcases h with h | h
  · obtain ⟨-, rfl, h1, h2⟩ := h
    exact ⟨⟨1, rfl, by omega, by omega⟩, calm_same hC hO h1 h2⟩
  · obtain ⟨-, rfl, i, -, qq, uu, nn, hp, rfl⟩ := h
    refine ⟨⟨0, rfl, by omega, by omega⟩, ?_⟩
    obtain ⟨-, hC2, hk2⟩ := hp
    exact calm_set hC2 (fun _ _ => ⟨rfl, rfl⟩) (fun _ _ => rfl) hk2 ho _ _
set_option maxHeartbeats 1000000 in
theorem a_pairNorm {τ ad : Nat → Nat} {w w' : Wd} {o : Nat} {bs ss : Nat → Int} {pb : Nat → PT} {P Q : Nat → Nat} {ct : Nat → Int} (hC : CS τ ad w bs ss pb P Q ct) (ho : τ o = 199) (hO : OU w o) {vi : Int} {r' : Option Value} (h : (¬ ((0 ≤ vi ∧ vi ≤ 2)) ∧ r' = some (iI 1) ∧ w.1 ≤ w'.1 ∧ w'.2 = w.2) ∨ (((0 ≤ vi ∧ vi ≤ 2)) ∧ r' = some (iI 0) ∧ ∃ (i : Nat), vi = (i : Int) ∧ ∃ (qq : Nat) (uu : Wd) (n : Int), ((∃ s : Nat, (some (Value.ref qq)) = some (Value.ref s)) ∧ CS τ ad uu (bs) (ss) (pb) (P) (Q) (ct) ∧ KO τ w uu) ∧ w' = wset uu o (true, eO 9 [jJ n, .ref qq]))) : (∃ k : Int, r' = some (iI k) ∧ 0 ≤ k ∧ k ≤ 2) ∧ CALM τ ad o w w' bs ss pb P Q ct := by
  rcases h with h | h
  · obtain ⟨-, rfl, h1, h2⟩ := h
    exact ⟨⟨1, rfl, by omega, by omega⟩, calm_same hC hO h1 h2⟩
  · obtain ⟨-, rfl, i, -, qq, uu, nn, hp, rfl⟩ := h
    refine ⟨⟨0, rfl, by omega, by omega⟩, ?_⟩
    obtain ⟨-, hC2, hk2⟩ := hp
    exact calm_set hC2 (fun _ _ => ⟨rfl, rfl⟩) (fun _ _ => rfl) hk2 ho _ _
set_option maxHeartbeats 1000000 in
theorem a_pairBits {τ ad : Nat → Nat} {w w' : Wd} {o : Nat} {bs ss : Nat → Int} {pb : Nat → PT} {P Q : Nat → Nat} {ct : Nat → Int} (hC : CS τ ad w bs ss pb P Q ct) (ho : τ o = 199) (hO : OU w o) {vi y z : Int} {r' : Option Value} (h : (¬ ((0 ≤ vi ∧ vi ≤ 2)) ∧ r' = some (iI 1) ∧ w.1 ≤ w'.1 ∧ w'.2 = w.2) ∨ (((0 ≤ vi ∧ vi ≤ 2)) ∧ ¬ ((0 ≤ z ∧ z ≤ 2)) ∧ r' = some (iI 2) ∧ w.1 ≤ w'.1 ∧ w'.2 = w.2) ∨ (((0 ≤ vi ∧ vi ≤ 2)) ∧ ((0 ≤ z ∧ z ≤ 2)) ∧ r' = some (iI 0) ∧ ∃ (i : Nat), vi = (i : Int) ∧ ∃ (zz : Int) (uu : Wd) (sv : Value), (-2147483648 ≤ zz ∧ zz < 2147483648) ∧ ((some (iI zz)) = some (iI (bitV (sdV y (pb i)) z)) ∧ CS τ ad uu (bs) (ss) (pb) (P) (Q) (ct) ∧ KO τ w uu) ∧ w' = wset uu o (true, eO 9 [jJ zz, sv]))) : (∃ k : Int, r' = some (iI k) ∧ 0 ≤ k ∧ k ≤ 2) ∧ CALM τ ad o w w' bs ss pb P Q ct := by
  rcases h with h | h | h
  · obtain ⟨-, rfl, h1, h2⟩ := h
    exact ⟨⟨1, rfl, by omega, by omega⟩, calm_same hC hO h1 h2⟩
  · obtain ⟨-, -, rfl, h1, h2⟩ := h
    exact ⟨⟨2, rfl, by omega, by omega⟩, calm_same hC hO h1 h2⟩
  · obtain ⟨-, -, rfl, i, -, zz, uu, sv, -, hp, rfl⟩ := h
    refine ⟨⟨0, rfl, by omega, by omega⟩, ?_⟩
    obtain ⟨-, hC2, hk2⟩ := hp
    exact calm_set hC2 (fun _ _ => ⟨rfl, rfl⟩) (fun _ _ => rfl) hk2 ho _ _
set_option maxHeartbeats 1000000 in
theorem a_rank {τ ad : Nat → Nat} {w w' : Wd} {o : Nat} {bs ss : Nat → Int} {pb : Nat → PT} {P Q : Nat → Nat} {ct : Nat → Int} (hC : CS τ ad w bs ss pb P Q ct) (ho : τ o = 199) (hO : OU w o) {vi : Int} {r' : Option Value} (h : (¬ ((0 ≤ vi ∧ vi ≤ 2)) ∧ r' = some (iI 1) ∧ w.1 ≤ w'.1 ∧ w'.2 = w.2) ∨ (((0 ≤ vi ∧ vi ≤ 2)) ∧ r' = some (iI 0) ∧ ∃ (i : Nat), vi = (i : Int) ∧ ∃ (zz : Int) (uu : Wd) (sv : Value), (-2147483648 ≤ zz ∧ zz < 2147483648) ∧ ((∃ x : Int, (some (iI zz)) = some (iI x) ∧ rnkP (pb i) x) ∧ (∃ pb' : Nat → PT, (∀ j, j < 3 → pb' j = pb j) ∧ CS τ ad uu (bs) (ss) (pb') (P) (Q) (ct)) ∧ KO τ w uu) ∧ w' = wset uu o (true, eO 9 [jJ zz, sv]))) : (∃ k : Int, r' = some (iI k) ∧ 0 ≤ k ∧ k ≤ 2) ∧ CALM τ ad o w w' bs ss pb P Q ct := by
  rcases h with h | h
  · obtain ⟨-, rfl, h1, h2⟩ := h
    exact ⟨⟨1, rfl, by omega, by omega⟩, calm_same hC hO h1 h2⟩
  · obtain ⟨-, rfl, i, -, zz, uu, sv, -, hp, rfl⟩ := h
    refine ⟨⟨0, rfl, by omega, by omega⟩, ?_⟩
    obtain ⟨-, ⟨pb2, hpb2, hC2⟩, hk2⟩ := hp
    exact calm_set hC2 (fun _ _ => ⟨rfl, rfl⟩) hpb2 hk2 ho _ _
set_option maxHeartbeats 1000000 in
theorem a_order {τ ad : Nat → Nat} {w w' : Wd} {o : Nat} {bs ss : Nat → Int} {pb : Nat → PT} {P Q : Nat → Nat} {ct : Nat → Int} (hC : CS τ ad w bs ss pb P Q ct) (ho : τ o = 199) (hO : OU w o) {vi vk y : Int} {r' : Option Value} (h : (¬ ((0 ≤ vi ∧ vi ≤ 2) ∧ (0 ≤ vk ∧ vk ≤ 2)) ∧ r' = some (iI 1) ∧ w.1 ≤ w'.1 ∧ w'.2 = w.2) ∨ (((0 ≤ vi ∧ vi ≤ 2) ∧ (0 ≤ vk ∧ vk ≤ 2)) ∧ r' = some (iI 0) ∧ ∃ (i : Nat) (k : Nat), vi = (i : Int) ∧ vk = (k : Int) ∧ ∃ (zz : Int) (uu : Wd) (sv : Value), (-2147483648 ≤ zz ∧ zz < 2147483648) ∧ ((∃ x : Int, (some (iI zz)) = some (iI x) ∧ (sdV y (pb i) < sdV y (pb k) ∧ x = -1 ∨ sdV y (pb i) = sdV y (pb k) ∧ x = 0 ∨ sdV y (pb k) < sdV y (pb i) ∧ x = 1)) ∧ CS τ ad uu (bs) (ss) (pb) (P) (Q) (ct) ∧ KO τ w uu) ∧ w' = wset uu o (true, eO 9 [jJ zz, sv]))) : (∃ k : Int, r' = some (iI k) ∧ 0 ≤ k ∧ k ≤ 2) ∧ CALM τ ad o w w' bs ss pb P Q ct := by
  rcases h with h | h
  · obtain ⟨-, rfl, h1, h2⟩ := h
    exact ⟨⟨1, rfl, by omega, by omega⟩, calm_same hC hO h1 h2⟩
  · obtain ⟨-, rfl, i, k, -, -, zz, uu, sv, -, hp, rfl⟩ := h
    refine ⟨⟨0, rfl, by omega, by omega⟩, ?_⟩
    obtain ⟨-, hC2, hk2⟩ := hp
    exact calm_set hC2 (fun _ _ => ⟨rfl, rfl⟩) (fun _ _ => rfl) hk2 ho _ _
set_option maxHeartbeats 1000000 in
theorem a_isSame {τ ad : Nat → Nat} {w w' : Wd} {o : Nat} {bs ss : Nat → Int} {pb : Nat → PT} {P Q : Nat → Nat} {ct : Nat → Int} (hC : CS τ ad w bs ss pb P Q ct) (ho : τ o = 199) (hO : OU w o) {vi vk : Int} {r' : Option Value} (h : (¬ ((0 ≤ vi ∧ vi ≤ 2) ∧ (0 ≤ vk ∧ vk ≤ 2)) ∧ r' = some (iI 1) ∧ w.1 ≤ w'.1 ∧ w'.2 = w.2) ∨ (((0 ≤ vi ∧ vi ≤ 2) ∧ (0 ≤ vk ∧ vk ≤ 2)) ∧ r' = some (iI 0) ∧ ∃ (i : Nat) (k : Nat), vi = (i : Int) ∧ vk = (k : Int) ∧ ∃ (zz : Int) (uu : Wd) (sv : Value), (-2147483648 ≤ zz ∧ zz < 2147483648) ∧ ((∃ x : Int, (some (iI zz)) = some (iI x) ∧ (x = 0 ∨ x = 1) ∧ x = bI ((pb i).1 = (pb k).1 ∧ (pb i).2.1 = (pb k).2.1 ∧ (pb i).2.2 = (pb k).2.2)) ∧ CS τ ad uu (bs) (ss) (pb) (P) (Q) (ct) ∧ KO τ w uu) ∧ w' = wset uu o (true, eO 9 [jJ zz, sv]))) : (∃ k : Int, r' = some (iI k) ∧ 0 ≤ k ∧ k ≤ 2) ∧ CALM τ ad o w w' bs ss pb P Q ct := by
  rcases h with h | h
  · obtain ⟨-, rfl, h1, h2⟩ := h
    exact ⟨⟨1, rfl, by omega, by omega⟩, calm_same hC hO h1 h2⟩
  · obtain ⟨-, rfl, i, k, -, -, zz, uu, sv, -, hp, rfl⟩ := h
    refine ⟨⟨0, rfl, by omega, by omega⟩, ?_⟩
    obtain ⟨-, hC2, hk2⟩ := hp
    exact calm_set hC2 (fun _ _ => ⟨rfl, rfl⟩) (fun _ _ => rfl) hk2 ho _ _
set_option maxHeartbeats 1000000 in
theorem a_splitNumber {τ ad : Nat → Nat} {w w' : Wd} {o : Nat} {bs ss : Nat → Int} {pb : Nat → PT} {P Q : Nat → Nat} {ct : Nat → Int} (hC : CS τ ad w bs ss pb P Q ct) (ho : τ o = 199) (hO : OU w o) {vi z : Int} {r' : Option Value} (h : (¬ ((0 ≤ vi ∧ vi ≤ 2)) ∧ r' = some (iI 1) ∧ w.1 ≤ w'.1 ∧ w'.2 = w.2) ∨ (((0 ≤ vi ∧ vi ≤ 2)) ∧ ¬ ((0 ≤ z ∧ z ≤ 7)) ∧ r' = some (iI 2) ∧ w.1 ≤ w'.1 ∧ w'.2 = w.2) ∨ (((0 ≤ vi ∧ vi ≤ 2)) ∧ ((0 ≤ z ∧ z ≤ 7)) ∧ r' = some (iI 0) ∧ ∃ (i : Nat), vi = (i : Int) ∧ ∃ (zz : Int) (uu : Wd) (sv : Value), (-2147483648 ≤ zz ∧ zz < 2147483648) ∧ ((some (iI zz)) = some (iI (szV (spF (P i) (Q i)) z)) ∧ CS τ ad uu (bs) (ss) (pb) (P) (Q) (ct) ∧ KO τ w uu) ∧ w' = wset uu o (true, eO 9 [jJ zz, sv]))) : (∃ k : Int, r' = some (iI k) ∧ 0 ≤ k ∧ k ≤ 2) ∧ CALM τ ad o w w' bs ss pb P Q ct := by
  rcases h with h | h | h
  · obtain ⟨-, rfl, h1, h2⟩ := h
    exact ⟨⟨1, rfl, by omega, by omega⟩, calm_same hC hO h1 h2⟩
  · obtain ⟨-, -, rfl, h1, h2⟩ := h
    exact ⟨⟨2, rfl, by omega, by omega⟩, calm_same hC hO h1 h2⟩
  · obtain ⟨-, -, rfl, i, -, zz, uu, sv, -, hp, rfl⟩ := h
    refine ⟨⟨0, rfl, by omega, by omega⟩, ?_⟩
    obtain ⟨-, hC2, hk2⟩ := hp
    exact calm_set hC2 (fun _ _ => ⟨rfl, rfl⟩) (fun _ _ => rfl) hk2 ho _ _
set_option maxHeartbeats 1000000 in
theorem a_way {τ ad : Nat → Nat} {w w' : Wd} {o : Nat} {bs ss : Nat → Int} {pb : Nat → PT} {P Q : Nat → Nat} {ct : Nat → Int} (hC : CS τ ad w bs ss pb P Q ct) (ho : τ o = 199) (hO : OU w o) {vi : Int} {r' : Option Value} (h : (¬ ((0 ≤ vi ∧ vi ≤ 2)) ∧ r' = some (iI 1) ∧ w.1 ≤ w'.1 ∧ w'.2 = w.2) ∨ (((0 ≤ vi ∧ vi ≤ 2)) ∧ r' = some (iI 0) ∧ ∃ (i : Nat), vi = (i : Int) ∧ ∃ (qq : Nat) (uu : Wd) (n : Int), ((∃ s : Nat, (some (Value.ref qq)) = some (Value.ref s)) ∧ (∃ P' Q' : Nat → Nat, (∀ j, j < 3 → P' j = P j ∧ Q' j = Q j) ∧ CS τ ad uu (bs) (ss) (pb) (P') (Q') (ct)) ∧ KO τ w uu) ∧ w' = wset uu o (true, eO 9 [jJ n, .ref qq]))) : (∃ k : Int, r' = some (iI k) ∧ 0 ≤ k ∧ k ≤ 2) ∧ CALM τ ad o w w' bs ss pb P Q ct := by
  rcases h with h | h
  · obtain ⟨-, rfl, h1, h2⟩ := h
    exact ⟨⟨1, rfl, by omega, by omega⟩, calm_same hC hO h1 h2⟩
  · obtain ⟨-, rfl, i, -, qq, uu, nn, hp, rfl⟩ := h
    refine ⟨⟨0, rfl, by omega, by omega⟩, ?_⟩
    obtain ⟨-, ⟨P2, Q2, hpq, hC2⟩, hk2⟩ := hp
    exact calm_set hC2 hpq (fun _ _ => rfl) hk2 ho _ _
set_option maxHeartbeats 1000000 in
theorem a_product {τ ad : Nat → Nat} {w w' : Wd} {o : Nat} {bs ss : Nat → Int} {pb : Nat → PT} {P Q : Nat → Nat} {ct : Nat → Int} (hC : CS τ ad w bs ss pb P Q ct) (ho : τ o = 199) (hO : OU w o) {vi vk : Int} {r' : Option Value} (h : (¬ ((0 ≤ vi ∧ vi ≤ 2) ∧ (0 ≤ vk ∧ vk ≤ 2)) ∧ r' = some (iI 1) ∧ w.1 ≤ w'.1 ∧ w'.2 = w.2) ∨ (((0 ≤ vi ∧ vi ≤ 2) ∧ (0 ≤ vk ∧ vk ≤ 2)) ∧ r' = some (iI 0) ∧ ∃ (i : Nat) (k : Nat), vi = (i : Int) ∧ vk = (k : Int) ∧ ∃ (qq : Nat) (uu : Wd) (n : Int), ((∃ s : Nat, (some (Value.ref qq)) = some (Value.ref s)) ∧ (∃ P' Q' : Nat → Nat, (∀ j, j < 3 → P' j = P j ∧ Q' j = Q j) ∧ CS τ ad uu (bs) (ss) (pb) (P') (Q') (ct)) ∧ KO τ w uu) ∧ w' = wset uu o (true, eO 9 [jJ n, .ref qq]))) : (∃ k : Int, r' = some (iI k) ∧ 0 ≤ k ∧ k ≤ 2) ∧ CALM τ ad o w w' bs ss pb P Q ct := by
  rcases h with h | h
  · obtain ⟨-, rfl, h1, h2⟩ := h
    exact ⟨⟨1, rfl, by omega, by omega⟩, calm_same hC hO h1 h2⟩
  · obtain ⟨-, rfl, i, k, -, -, qq, uu, nn, hp, rfl⟩ := h
    refine ⟨⟨0, rfl, by omega, by omega⟩, ?_⟩
    obtain ⟨-, ⟨P2, Q2, hpq, hC2⟩, hk2⟩ := hp
    exact calm_set hC2 hpq (fun _ _ => rfl) hk2 ho _ _
set_option maxHeartbeats 1000000 in
theorem a_symbol {τ ad : Nat → Nat} {w w' : Wd} {o : Nat} {bs ss : Nat → Int} {pb : Nat → PT} {P Q : Nat → Nat} {ct : Nat → Int} (hC : CS τ ad w bs ss pb P Q ct) (ho : τ o = 199) (hO : OU w o) {vi x : Int} {r' : Option Value} (h : (¬ ((0 ≤ vi ∧ vi ≤ 2)) ∧ r' = some (iI 1) ∧ w.1 ≤ w'.1 ∧ w'.2 = w.2) ∨ (((0 ≤ vi ∧ vi ≤ 2)) ∧ ¬ ((-999 ≤ x ∧ x ≤ 999)) ∧ r' = some (iI 2) ∧ w.1 ≤ w'.1 ∧ w'.2 = w.2) ∨ (((0 ≤ vi ∧ vi ≤ 2)) ∧ ((-999 ≤ x ∧ x ≤ 999)) ∧ r' = some (iI 0) ∧ ∃ (i : Nat), vi = (i : Int) ∧ ∃ (zz : Int) (uu : Wd) (sv : Value), (-2147483648 ≤ zz ∧ zz < 2147483648) ∧ ((some (iI zz)) = some (iI (if x % ((P i : Nat) : Int) = 0 then 0 else if pmN (x % ((P i : Nat) : Int)).toNat (P i) ((P i - 1) / 2) = 1 then 1 else -1)) ∧ CS τ ad uu (bs) (ss) (pb) (P) (Q) (ct) ∧ KO τ w uu) ∧ w' = wset uu o (true, eO 9 [jJ zz, sv]))) : (∃ k : Int, r' = some (iI k) ∧ 0 ≤ k ∧ k ≤ 2) ∧ CALM τ ad o w w' bs ss pb P Q ct := by
  rcases h with h | h | h
  · obtain ⟨-, rfl, h1, h2⟩ := h
    exact ⟨⟨1, rfl, by omega, by omega⟩, calm_same hC hO h1 h2⟩
  · obtain ⟨-, -, rfl, h1, h2⟩ := h
    exact ⟨⟨2, rfl, by omega, by omega⟩, calm_same hC hO h1 h2⟩
  · obtain ⟨-, -, rfl, i, -, zz, uu, sv, -, hp, rfl⟩ := h
    refine ⟨⟨0, rfl, by omega, by omega⟩, ?_⟩
    obtain ⟨-, hC2, hk2⟩ := hp
    exact calm_set hC2 (fun _ _ => ⟨rfl, rfl⟩) (fun _ _ => rfl) hk2 ho _ _
set_option maxHeartbeats 1000000 in
theorem a_inverse {τ ad : Nat → Nat} {w w' : Wd} {o : Nat} {bs ss : Nat → Int} {pb : Nat → PT} {P Q : Nat → Nat} {ct : Nat → Int} (hC : CS τ ad w bs ss pb P Q ct) (ho : τ o = 199) (hO : OU w o) {vi x : Int} {r' : Option Value} (h : (¬ ((0 ≤ vi ∧ vi ≤ 2)) ∧ r' = some (iI 1) ∧ w.1 ≤ w'.1 ∧ w'.2 = w.2) ∨ (((0 ≤ vi ∧ vi ≤ 2)) ∧ ¬ ((-999 ≤ x ∧ x ≤ 999)) ∧ r' = some (iI 2) ∧ w.1 ≤ w'.1 ∧ w'.2 = w.2) ∨ (((0 ≤ vi ∧ vi ≤ 2)) ∧ ((-999 ≤ x ∧ x ≤ 999)) ∧ r' = some (iI 0) ∧ ∃ (i : Nat), vi = (i : Int) ∧ ∃ (zz : Int) (uu : Wd) (sv : Value), (-2147483648 ≤ zz ∧ zz < 2147483648) ∧ ((some (iI zz)) = some (iI ((pmN (x % ((P i : Nat) : Int)).toNat (P i) (P i - 2) : Nat) : Int)) ∧ CS τ ad uu (bs) (ss) (pb) (P) (Q) (ct) ∧ KO τ w uu) ∧ w' = wset uu o (true, eO 9 [jJ zz, sv]))) : (∃ k : Int, r' = some (iI k) ∧ 0 ≤ k ∧ k ≤ 2) ∧ CALM τ ad o w w' bs ss pb P Q ct := by
  rcases h with h | h | h
  · obtain ⟨-, rfl, h1, h2⟩ := h
    exact ⟨⟨1, rfl, by omega, by omega⟩, calm_same hC hO h1 h2⟩
  · obtain ⟨-, -, rfl, h1, h2⟩ := h
    exact ⟨⟨2, rfl, by omega, by omega⟩, calm_same hC hO h1 h2⟩
  · obtain ⟨-, -, rfl, i, -, zz, uu, sv, -, hp, rfl⟩ := h
    refine ⟨⟨0, rfl, by omega, by omega⟩, ?_⟩
    obtain ⟨-, hC2, hk2⟩ := hp
    exact calm_set hC2 (fun _ _ => ⟨rfl, rfl⟩) (fun _ _ => rfl) hk2 ho _ _
set_option maxHeartbeats 1000000 in
theorem a_isPrime {τ ad : Nat → Nat} {w w' : Wd} {o : Nat} {bs ss : Nat → Int} {pb : Nat → PT} {P Q : Nat → Nat} {ct : Nat → Int} (hC : CS τ ad w bs ss pb P Q ct) (ho : τ o = 199) (hO : OU w o) {vn : Int} {r' : Option Value} (h : (¬ ((0 ≤ vn ∧ vn ≤ 999)) ∧ r' = some (iI 1) ∧ w.1 ≤ w'.1 ∧ w'.2 = w.2) ∨ (((0 ≤ vn ∧ vn ≤ 999)) ∧ r' = some (iI 0) ∧ ∃ (n : Nat), vn = (n : Int) ∧ ∃ (zz : Int) (uu : Wd) (sv : Value), (-2147483648 ≤ zz ∧ zz < 2147483648) ∧ ((some (iI zz)) = some (iI (bI (2 ≤ n ∧ prB n = true))) ∧ CS τ ad uu (bs) (ss) (pb) (P) (Q) (ct) ∧ KO τ w uu) ∧ w' = wset uu o (true, eO 9 [jJ zz, sv]))) : (∃ k : Int, r' = some (iI k) ∧ 0 ≤ k ∧ k ≤ 2) ∧ CALM τ ad o w w' bs ss pb P Q ct := by
  rcases h with h | h
  · obtain ⟨-, rfl, h1, h2⟩ := h
    exact ⟨⟨1, rfl, by omega, by omega⟩, calm_same hC hO h1 h2⟩
  · obtain ⟨-, rfl, n, -, zz, uu, sv, -, hp, rfl⟩ := h
    refine ⟨⟨0, rfl, by omega, by omega⟩, ?_⟩
    obtain ⟨-, hC2, hk2⟩ := hp
    exact calm_set hC2 (fun _ _ => ⟨rfl, rfl⟩) (fun _ _ => rfl) hk2 ho _ _
set_option maxHeartbeats 1000000 in
theorem a_house {τ ad : Nat → Nat} {w w' : Wd} {o : Nat} {bs ss : Nat → Int} {pb : Nat → PT} {P Q : Nat → Nat} {ct : Nat → Int} (hC : CS τ ad w bs ss pb P Q ct) (ho : τ o = 199) (hO : OU w o) {z : Int} {r' : Option Value} (h : (¬ ((0 ≤ z ∧ z ≤ 4)) ∧ r' = some (iI 1) ∧ w.1 ≤ w'.1 ∧ w'.2 = w.2) ∨ (((0 ≤ z ∧ z ≤ 4)) ∧ r' = some (iI 0) ∧ ∃ (zz : Int) (uu : Wd) (sv : Value), (-2147483648 ≤ zz ∧ zz < 2147483648) ∧ ((some (iI zz)) = some (iI (ct z.toNat)) ∧ CS τ ad uu (bs) (ss) (pb) (P) (Q) (ct) ∧ KO τ w uu) ∧ w' = wset uu o (true, eO 9 [jJ zz, sv]))) : (∃ k : Int, r' = some (iI k) ∧ 0 ≤ k ∧ k ≤ 2) ∧ CALM τ ad o w w' bs ss pb P Q ct := by
  rcases h with h | h
  · obtain ⟨-, rfl, h1, h2⟩ := h
    exact ⟨⟨1, rfl, by omega, by omega⟩, calm_same hC hO h1 h2⟩
  · obtain ⟨-, rfl, zz, uu, sv, -, hp, rfl⟩ := h
    refine ⟨⟨0, rfl, by omega, by omega⟩, ?_⟩
    obtain ⟨-, hC2, hk2⟩ := hp
    exact calm_set hC2 (fun _ _ => ⟨rfl, rfl⟩) (fun _ _ => rfl) hk2 ho _ _
/-! calls that change walks and splits: both sides -/
theorem iI_inj {a b : Int} (h : iI a = iI b) (ha : -2147483648 ≤ a ∧ a < 2147483648) (hb : -2147483648 ≤ b ∧ b < 2147483648) : a = b := (i_eq ha hb).mp (by injection h)
def OV (w : Wd) (o : Nat) (nv : Int) : Prop := ∃ s : Value, w.2 o = some (true, eO 9 [jJ nv, s])
theorem OV.u {w : Wd} {o : Nat} {nv : Int} (h : OV w o nv) : OU w o := ⟨nv, h⟩
def BZ (τ ad : Nat → Nat) (o : Nat) (w w1 : Wd) (bs1 ss1 : Nat → Int) (pb1 : Nat → PT) (P1 Q1 : Nat → Nat) (ct1 : Nat → Int) : Prop := (∃ pb2 : Nat → PT, (∀ j, j < 3 → pb2 j = pb1 j) ∧ CS τ ad w1 bs1 ss1 pb2 P1 Q1 ct1) ∧ KM τ w w1
theorem bz_same {τ ad : Nat → Nat} {w w' : Wd} {o : Nat} {bs ss : Nat → Int} {pb : Nat → PT} {P Q : Nat → Nat} {ct : Nat → Int} (hC : CS τ ad w bs ss pb P Q ct) (h1 : w.1 ≤ w'.1) (h2 : w'.2 = w.2) : BZ τ ad o w w' bs ss pb P Q ct := ⟨⟨pb, fun _ _ => rfl, hC.big h1 h2⟩, (KO.big h1 h2).km⟩
theorem bz_set {τ ad : Nat → Nat} {w u : Wd} {o : Nat} {bs ss : Nat → Int} {pb : Nat → PT} {P Q : Nat → Nat} {ct : Nat → Int} (hC : CS τ ad u bs ss pb P Q ct) (hk : KO τ w u) (ho : τ o = 199) (e : WdE) : BZ τ ad o w (wset u o e) bs ss pb P Q ct := ⟨⟨pb, fun _ _ => rfl, hC.out ho e⟩, hk.km.out ho e⟩
theorem rl_w {bs ss : Nat → Int} {pb : Nat → PT} {P Q : Nat → Nat} {ct ct1 ba st pm le ri cm cm1 : Nat → Int} {sp : Nat → Nat → Int} (hr : RLx bs ss pb P Q ct ba st pm le ri sp cm) (h4 : ∀ i, i < 5 → ct1 i = cm1 i) (i : Nat) (b s : Int) : RLx (iup bs i b) (iup ss i s) pb P Q ct1 (iup ba i b) (iup st i s) pm le ri sp cm1 :=
  ⟨fun j hj => by
    obtain ⟨x, y, z⟩ := hr.1 j hj
    by_cases q : j = i
    · subst q; rw [iup_s, iup_s, iup_s, iup_s]; exact ⟨rfl, rfl, z⟩
    · rw [iup_n q, iup_n q, iup_n q, iup_n q]; exact ⟨x, y, z⟩, hr.2.1, h4⟩
theorem rl_ws {bs ss : Nat → Int} {pb : Nat → PT} {P Q : Nat → Nat} {ct ct1 ba st pm le ri cm cm1 : Nat → Int} {sp : Nat → Nat → Int} (hr : RLx bs ss pb P Q ct ba st pm le ri sp cm) (h4 : ∀ i, i < 5 → ct1 i = cm1 i) (i : Nat) (s : Int) : RLx bs (iup ss i s) pb P Q ct1 ba (iup st i s) pm le ri sp cm1 :=
  ⟨fun j hj => by
    obtain ⟨x, y, z⟩ := hr.1 j hj
    by_cases q : j = i
    · subst q; rw [iup_s, iup_s]; exact ⟨x, rfl, z⟩
    · rw [iup_n q, iup_n q]; exact ⟨x, y, z⟩, hr.2.1, h4⟩
theorem rl_c {bs ss : Nat → Int} {pb : Nat → PT} {P Q : Nat → Nat} {ct ct1 ba st pm le ri cm cm1 : Nat → Int} {sp : Nat → Nat → Int} (hr : RLx bs ss pb P Q ct ba st pm le ri sp cm) (h4 : ∀ i, i < 5 → ct1 i = cm1 i) : RLx bs ss pb P Q ct1 ba st pm le ri sp cm1 := ⟨hr.1, hr.2.1, h4⟩
theorem rl_s {bs ss : Nat → Int} {pb : Nat → PT} {P Q : Nat → Nat} {ct ct1 ba st pm le ri cm cm1 : Nat → Int} {sp : Nat → Nat → Int} (hr : RLx bs ss pb P Q ct ba st pm le ri sp cm) (h4 : ∀ i, i < 5 → ct1 i = cm1 i) {i p k : Nat} {f : Nat → Int} (hf : SpR f p k) : RLx bs ss pb (nup P i p) (nup Q i k) ct1 ba st pm le ri (sup sp i f) cm1 :=
  ⟨fun j hj => by
    obtain ⟨x, y, z⟩ := hr.1 j hj
    unfold sup
    by_cases q : j = i
    · subst q; rw [nup_s, nup_s, if_pos rfl]; exact ⟨x, y, hf⟩
    · rw [nup_n q, nup_n q, if_neg q]; exact ⟨x, y, z⟩, hr.2.1, h4⟩
theorem hz_s {sp : Nat → Nat → Int} (h : HZp sp) {i p k : Nat} {f : Nat → Int} (hf : SpR f p k) : HZp (sup sp i f) := fun j hj => by
  unfold sup
  by_cases q : j = i
  · subst q; rw [if_pos rfl]; exact ⟨p, k, hf⟩
  · rw [if_neg q]; exact h j hj
theorem SpR_u {f : Nat → Int} {p k p' k' : Nat} (h : SpR f p k) (g : SpR f p' k') : p = p' ∧ k = k' := by
  have h0 := h.2.1
  have h5 := h.2.2.2.2.2.2
  have g0 := g.2.1
  have g5 := g.2.2.2.2.2.2
  omega
theorem gb_w {ba : Nat → Int} (h : ∀ i, i < 3 → GB (ba i)) {b : Int} (hb : GB b) (j : Nat) : ∀ i, i < 3 → GB (iup ba j b i) := fun i hi => by
  by_cases q : i = j
  · subst q; rw [iup_s]; exact hb
  · rw [iup_n q]; exact h i hi
theorem st_w {st : Nat → Int} (h : ∀ i, i < 3 → 0 ≤ st i ∧ st i ≤ 24) {s : Int} (hs : 0 ≤ s ∧ s ≤ 24) (j : Nat) : ∀ i, i < 3 → 0 ≤ iup st j s i ∧ iup st j s i ≤ 24 := fun i hi => by
  by_cases q : i = j
  · subst q; rw [iup_s]; exact hs
  · rw [iup_n q]; exact h i hi
theorem ctu {ct cm : Nat → Int} (h : ∀ i, i < 5 → ct i = cm i) {j : Nat} (hj : j < 5) : ∀ i, i < 5 → iup ct j (ct j + 1) i = iup cm j (cm j + 1) i := fun i hi => by
  by_cases q : i = j
  · subst q; rw [iup_s, iup_s, h i hi]
  · rw [iup_n q, iup_n q]; exact h i hi
def D_open (vi b : Int) (bs ss ct : Nat → Int) (k nv : Int) (bs1 ss1 ct1 : Nat → Int) : Prop := (¬ (0 ≤ vi ∧ vi ≤ 2) ∧ k = 1 ∧ bs1 = bs ∧ ss1 = ss ∧ ct1 = ct) ∨ ((0 ≤ vi ∧ vi ≤ 2) ∧ ¬ GB b ∧ k = 2 ∧ bs1 = bs ∧ ss1 = ss ∧ ct1 = ct) ∨ ((0 ≤ vi ∧ vi ≤ 2) ∧ GB b ∧ k = 0 ∧ RT b nv ∧ bs1 = iup bs vi.toNat b ∧ ss1 = iup ss vi.toNat 0 ∧ ct1 = iup ct 0 (ct 0 + 1))
def D_forth (vi x : Int) (ss ct : Nat → Int) (k nv : Int) (ss1 ct1 : Nat → Int) : Prop := (¬ (0 ≤ vi ∧ vi ≤ 2) ∧ k = 1 ∧ ss1 = ss ∧ ct1 = ct) ∨ ((0 ≤ vi ∧ vi ≤ 2) ∧ ¬ (1 ≤ x ∧ x ≤ 6) ∧ k = 2 ∧ ss1 = ss ∧ ct1 = ct) ∨ ((0 ≤ vi ∧ vi ≤ 2) ∧ (1 ≤ x ∧ x ≤ 6) ∧ k = 0 ∧ (24 < ss vi.toNat + x ∧ nv = -9 ∧ ss1 = ss ∧ ct1 = iup ct 3 (ct 3 + 1) ∨ ss vi.toNat + x ≤ 24 ∧ nv = ss vi.toNat + x ∧ ss1 = iup ss vi.toNat (ss vi.toNat + x) ∧ ct1 = iup ct 0 (ct 0 + 1)))
def D_back (vi : Int) (ss ct : Nat → Int) (k nv : Int) (ss1 ct1 : Nat → Int) : Prop := (¬ (0 ≤ vi ∧ vi ≤ 2) ∧ k = 1 ∧ ss1 = ss ∧ ct1 = ct) ∨ ((0 ≤ vi ∧ vi ≤ 2) ∧ k = 0 ∧ (ss vi.toNat = 0 ∧ nv = -9 ∧ ss1 = ss ∧ ct1 = iup ct 3 (ct 3 + 1) ∨ 0 < ss vi.toNat ∧ nv = ss vi.toNat - 1 ∧ ss1 = iup ss vi.toNat (ss vi.toNat - 1) ∧ ct1 = iup ct 0 (ct 0 + 1)))
def D_walkCopy (vi vk : Int) (bs ss ct : Nat → Int) (k nv : Int) (bs1 ss1 ct1 : Nat → Int) : Prop := (¬ ((0 ≤ vi ∧ vi ≤ 2) ∧ (0 ≤ vk ∧ vk ≤ 2)) ∧ k = 1 ∧ bs1 = bs ∧ ss1 = ss ∧ ct1 = ct) ∨ (((0 ≤ vi ∧ vi ≤ 2) ∧ (0 ≤ vk ∧ vk ≤ 2)) ∧ k = 0 ∧ nv = bI (bs vi.toNat ≠ bs vk.toNat ∨ ss vi.toNat ≠ ss vk.toNat) ∧ bs1 = iup bs vk.toNat (bs vi.toNat) ∧ ss1 = iup ss vk.toNat (ss vi.toNat) ∧ ct1 = iup ct 0 (ct 0 + 1))
def D_split (vi vn : Int) (P Q : Nat → Nat) (ct : Nat → Int) (k nv : Int) (P1 Q1 : Nat → Nat) (ct1 : Nat → Int) : Prop := (¬ (0 ≤ vi ∧ vi ≤ 2) ∧ k = 1 ∧ P1 = P ∧ Q1 = Q ∧ ct1 = ct) ∨ ((0 ≤ vi ∧ vi ≤ 2) ∧ ¬ (5 ≤ vn ∧ vn ≤ 997) ∧ k = 2 ∧ P1 = P ∧ Q1 = Q ∧ ct1 = ct) ∨ ((0 ≤ vi ∧ vi ≤ 2) ∧ (5 ≤ vn ∧ vn ≤ 997) ∧ k = 0 ∧ (¬ SPb vn.toNat = true ∧ nv = -9 ∧ P1 = P ∧ Q1 = Q ∧ ct1 = iup ct 3 (ct 3 + 1) ∨ SPb vn.toNat = true ∧ nv = ((wit vn.toNat : Nat) : Int) ∧ P1 = nup P vi.toNat vn.toNat ∧ Q1 = nup Q vi.toNat 0 ∧ ct1 = iup ct 2 (ct 2 + 1)))
def D_euclid (vi : Int) (P Q : Nat → Nat) (ct : Nat → Int) (k nv : Int) (Q1 : Nat → Nat) (ct1 : Nat → Int) : Prop := (¬ (0 ≤ vi ∧ vi ≤ 2) ∧ k = 1 ∧ Q1 = Q ∧ ct1 = ct) ∨ ((0 ≤ vi ∧ vi ≤ 2) ∧ k = 0 ∧ ((spS (P vi.toNat) (Q vi.toNat)).2.1 = 0 ∧ nv = -9 ∧ Q1 = Q ∧ ct1 = iup ct 3 (ct 3 + 1) ∨ (spS (P vi.toNat) (Q vi.toNat)).2.1 ≠ 0 ∧ nv = (spS (P vi.toNat) (Q vi.toNat + 1)).2.1 ∧ Q1 = nup Q vi.toNat (Q vi.toNat + 1) ∧ ct1 = iup ct 2 (ct 2 + 1)))
def D_settle (vi : Int) (P Q : Nat → Nat) (ct : Nat → Int) (k nv : Int) (Q1 : Nat → Nat) (ct1 : Nat → Int) : Prop := (¬ (0 ≤ vi ∧ vi ≤ 2) ∧ k = 1 ∧ Q1 = Q ∧ ct1 = ct) ∨ ((0 ≤ vi ∧ vi ≤ 2) ∧ k = 0 ∧ ∃ t : Nat, Q vi.toNat ≤ t ∧ SV (P vi.toNat) t ∧ (∀ j, Q vi.toNat ≤ j → j < t → (spS (P vi.toNat) j).2.1 ≠ 0 ∧ ((P vi.toNat : Nat) : Int) ≤ (spS (P vi.toNat) j).1 * (spS (P vi.toNat) j).1) ∧ ((spS (P vi.toNat) t).2.1 = 0 ∨ (spS (P vi.toNat) t).1 * (spS (P vi.toNat) t).1 < ((P vi.toNat : Nat) : Int)) ∧ nv = ((t - Q vi.toNat : Nat) : Int) ∧ Q1 = nup Q vi.toNat t ∧ ct1 = iup ct 2 (ct 2 + 1))
set_option maxHeartbeats 1000000 in
theorem a_open {τ ad : Nat → Nat} {w w' : Wd} {o : Nat} {bs ss : Nat → Int} {pb : Nat → PT} {P Q : Nat → Nat} {ct : Nat → Int} (hC : CS τ ad w bs ss pb P Q ct) (ho : τ o = 199) (hO : OU w o) {vi b : Int} {r' : Option Value} (h : (¬ ((0 ≤ vi ∧ vi ≤ 2)) ∧ r' = some (iI 1) ∧ w.1 ≤ w'.1 ∧ w'.2 = w.2) ∨ (((0 ≤ vi ∧ vi ≤ 2)) ∧ ¬ (GB b) ∧ r' = some (iI 2) ∧ w.1 ≤ w'.1 ∧ w'.2 = w.2) ∨ (((0 ≤ vi ∧ vi ≤ 2)) ∧ (GB b) ∧ r' = some (iI 0) ∧ ∃ (i : Nat), vi = (i : Int) ∧ ∃ (zz : Int) (uu : Wd) (sv : Value), (-2147483648 ≤ zz ∧ zz < 2147483648) ∧ (∃ r, (some (iI zz)) = some (iI r) ∧ RT b r ∧ CS τ ad uu (iup bs i b) (iup ss i 0) (pb) (P) (Q) (iup ct 0 (ct 0 + 1)) ∧ KO τ w uu) ∧ w' = wset uu o (true, eO 9 [jJ zz, sv]))) : ∃ (k nv : Int) (bs1 ss1 ct1 : Nat → Int), r' = some (iI k) ∧ OV w' o nv ∧ (k = 0 → -2147483648 ≤ nv ∧ nv < 2147483648) ∧ BZ τ ad o w w' bs1 ss1 pb P Q ct1 ∧ D_open vi b bs ss ct k nv bs1 ss1 ct1 := by
  obtain ⟨n0, s0, hO⟩ := hO
  rcases h with h | h | h
  · obtain ⟨hb, rfl, h1, h2⟩ := h
    exact ⟨1, n0, _, _, _, rfl, ⟨s0, by rw [h2]; exact hO⟩, fun h => absurd h (by omega), bz_same hC h1 h2, Or.inl ⟨hb, rfl, rfl, rfl, rfl⟩⟩
  · obtain ⟨hg, hb, rfl, h1, h2⟩ := h
    exact ⟨2, n0, _, _, _, rfl, ⟨s0, by rw [h2]; exact hO⟩, fun h => absurd h (by omega), bz_same hC h1 h2, Or.inr (Or.inl ⟨hg, hb, rfl, rfl, rfl, rfl⟩)⟩
  · obtain ⟨hg, hb, rfl, i, rfl, zz, uu, sv, hz, ⟨r, hzr, hr, hC2, hk2⟩, rfl⟩ := h
    have hr9 := RT_le hb hr
    have e : zz = r := iI_inj (Option.some.inj hzr) hz (by have := hr.1; omega)
    subst e
    exact ⟨0, zz, _, _, _, rfl, ⟨sv, wset_s⟩, fun _ => hz, bz_set hC2 hk2 ho _, Or.inr (Or.inr ⟨hg, hb, rfl, hr, rfl, rfl, rfl⟩)⟩
set_option maxHeartbeats 1000000 in
theorem a_forth {τ ad : Nat → Nat} {w w' : Wd} {o : Nat} {bs ss : Nat → Int} {pb : Nat → PT} {P Q : Nat → Nat} {ct : Nat → Int} (hC : CS τ ad w bs ss pb P Q ct) (ho : τ o = 199) (hO : OU w o) {vi x : Int} {r' : Option Value} (h : (¬ ((0 ≤ vi ∧ vi ≤ 2)) ∧ r' = some (iI 1) ∧ w.1 ≤ w'.1 ∧ w'.2 = w.2) ∨ (((0 ≤ vi ∧ vi ≤ 2)) ∧ ¬ ((1 ≤ x ∧ x ≤ 6)) ∧ r' = some (iI 2) ∧ w.1 ≤ w'.1 ∧ w'.2 = w.2) ∨ (((0 ≤ vi ∧ vi ≤ 2)) ∧ ((1 ≤ x ∧ x ≤ 6)) ∧ r' = some (iI 0) ∧ ∃ (i : Nat), vi = (i : Int) ∧ ∃ (zz : Int) (uu : Wd) (sv : Value), (-2147483648 ≤ zz ∧ zz < 2147483648) ∧ (((24 < ss i + x ∧ (some (iI zz)) = some (iI (-9)) ∧ CS τ ad uu (bs) (ss) (pb) (P) (Q) (iup ct 3 (ct 3 + 1))) ∨ (ss i + x ≤ 24 ∧ (some (iI zz)) = some (iI (ss i + x)) ∧ CS τ ad uu (bs) (iup ss i (ss i + x)) (pb) (P) (Q) (iup ct 0 (ct 0 + 1)))) ∧ KO τ w uu) ∧ w' = wset uu o (true, eO 9 [jJ zz, sv]))) : ∃ (k nv : Int) (ss1 ct1 : Nat → Int), r' = some (iI k) ∧ OV w' o nv ∧ (k = 0 → -2147483648 ≤ nv ∧ nv < 2147483648) ∧ BZ τ ad o w w' bs ss1 pb P Q ct1 ∧ D_forth vi x ss ct k nv ss1 ct1 := by
  obtain ⟨n0, s0, hO⟩ := hO
  rcases h with h | h | h
  · obtain ⟨hb, rfl, h1, h2⟩ := h
    exact ⟨1, n0, _, _, rfl, ⟨s0, by rw [h2]; exact hO⟩, fun h => absurd h (by omega), bz_same hC h1 h2, Or.inl ⟨hb, rfl, rfl, rfl⟩⟩
  · obtain ⟨hg, hb, rfl, h1, h2⟩ := h
    exact ⟨2, n0, _, _, rfl, ⟨s0, by rw [h2]; exact hO⟩, fun h => absurd h (by omega), bz_same hC h1 h2, Or.inr (Or.inl ⟨hg, hb, rfl, rfl, rfl⟩)⟩
  · obtain ⟨hg, hb, rfl, i, rfl, zz, uu, sv, hz, ⟨hp, hk2⟩, rfl⟩ := h
    have hs := (hC.W i (by omega)).2.2
    rcases hp with ⟨g1, g2, hC2⟩ | ⟨g1, g2, hC2⟩
    · have e : zz = -9 := iI_inj (Option.some.inj g2) hz (by omega)
      exact ⟨0, zz, _, _, rfl, ⟨sv, wset_s⟩, fun _ => hz, bz_set hC2 hk2 ho _, Or.inr (Or.inr ⟨hg, hb, rfl, Or.inl ⟨g1, e, rfl, rfl⟩⟩)⟩
    · have e : zz = ss i + x := iI_inj (Option.some.inj g2) hz (by omega)
      exact ⟨0, zz, _, _, rfl, ⟨sv, wset_s⟩, fun _ => hz, bz_set hC2 hk2 ho _, Or.inr (Or.inr ⟨hg, hb, rfl, Or.inr ⟨g1, e, rfl, rfl⟩⟩)⟩
set_option maxHeartbeats 1000000 in
theorem a_back {τ ad : Nat → Nat} {w w' : Wd} {o : Nat} {bs ss : Nat → Int} {pb : Nat → PT} {P Q : Nat → Nat} {ct : Nat → Int} (hC : CS τ ad w bs ss pb P Q ct) (ho : τ o = 199) (hO : OU w o) {vi : Int} {r' : Option Value} (h : (¬ ((0 ≤ vi ∧ vi ≤ 2)) ∧ r' = some (iI 1) ∧ w.1 ≤ w'.1 ∧ w'.2 = w.2) ∨ (((0 ≤ vi ∧ vi ≤ 2)) ∧ r' = some (iI 0) ∧ ∃ (i : Nat), vi = (i : Int) ∧ ∃ (zz : Int) (uu : Wd) (sv : Value), (-2147483648 ≤ zz ∧ zz < 2147483648) ∧ (((ss i = 0 ∧ (some (iI zz)) = some (iI (-9)) ∧ CS τ ad uu (bs) (ss) (pb) (P) (Q) (iup ct 3 (ct 3 + 1))) ∨ (0 < ss i ∧ (some (iI zz)) = some (iI (ss i - 1)) ∧ CS τ ad uu (bs) (iup ss i (ss i - 1)) (pb) (P) (Q) (iup ct 0 (ct 0 + 1)))) ∧ KO τ w uu) ∧ w' = wset uu o (true, eO 9 [jJ zz, sv]))) : ∃ (k nv : Int) (ss1 ct1 : Nat → Int), r' = some (iI k) ∧ OV w' o nv ∧ (k = 0 → -2147483648 ≤ nv ∧ nv < 2147483648) ∧ BZ τ ad o w w' bs ss1 pb P Q ct1 ∧ D_back vi ss ct k nv ss1 ct1 := by
  obtain ⟨n0, s0, hO⟩ := hO
  rcases h with h | h
  · obtain ⟨hb, rfl, h1, h2⟩ := h
    exact ⟨1, n0, _, _, rfl, ⟨s0, by rw [h2]; exact hO⟩, fun h => absurd h (by omega), bz_same hC h1 h2, Or.inl ⟨hb, rfl, rfl, rfl⟩⟩
  · obtain ⟨hg, rfl, i, rfl, zz, uu, sv, hz, ⟨hp, hk2⟩, rfl⟩ := h
    have hs := (hC.W i (by omega)).2.2
    rcases hp with ⟨g1, g2, hC2⟩ | ⟨g1, g2, hC2⟩
    · have e : zz = -9 := iI_inj (Option.some.inj g2) hz (by omega)
      exact ⟨0, zz, _, _, rfl, ⟨sv, wset_s⟩, fun _ => hz, bz_set hC2 hk2 ho _, Or.inr ⟨hg, rfl, Or.inl ⟨g1, e, rfl, rfl⟩⟩⟩
    · have e : zz = ss i - 1 := iI_inj (Option.some.inj g2) hz (by omega)
      exact ⟨0, zz, _, _, rfl, ⟨sv, wset_s⟩, fun _ => hz, bz_set hC2 hk2 ho _, Or.inr ⟨hg, rfl, Or.inr ⟨g1, e, rfl, rfl⟩⟩⟩
set_option maxHeartbeats 1000000 in
theorem a_walkCopy {τ ad : Nat → Nat} {w w' : Wd} {o : Nat} {bs ss : Nat → Int} {pb : Nat → PT} {P Q : Nat → Nat} {ct : Nat → Int} (hC : CS τ ad w bs ss pb P Q ct) (ho : τ o = 199) (hO : OU w o) {vi vk : Int} {r' : Option Value} (h : (¬ ((0 ≤ vi ∧ vi ≤ 2) ∧ (0 ≤ vk ∧ vk ≤ 2)) ∧ r' = some (iI 1) ∧ w.1 ≤ w'.1 ∧ w'.2 = w.2) ∨ (((0 ≤ vi ∧ vi ≤ 2) ∧ (0 ≤ vk ∧ vk ≤ 2)) ∧ r' = some (iI 0) ∧ ∃ (i : Nat) (k : Nat), vi = (i : Int) ∧ vk = (k : Int) ∧ ∃ (zz : Int) (uu : Wd) (sv : Value), (-2147483648 ≤ zz ∧ zz < 2147483648) ∧ ((some (iI zz)) = some (iI (bI (bs i ≠ bs k ∨ ss i ≠ ss k))) ∧ CS τ ad uu (iup bs k (bs i)) (iup ss k (ss i)) (pb) (P) (Q) (iup ct 0 (ct 0 + 1)) ∧ KO τ w uu) ∧ w' = wset uu o (true, eO 9 [jJ zz, sv]))) : ∃ (k nv : Int) (bs1 ss1 ct1 : Nat → Int), r' = some (iI k) ∧ OV w' o nv ∧ (k = 0 → -2147483648 ≤ nv ∧ nv < 2147483648) ∧ BZ τ ad o w w' bs1 ss1 pb P Q ct1 ∧ D_walkCopy vi vk bs ss ct k nv bs1 ss1 ct1 := by
  obtain ⟨n0, s0, hO⟩ := hO
  rcases h with h | h
  · obtain ⟨hb, rfl, h1, h2⟩ := h
    exact ⟨1, n0, _, _, _, rfl, ⟨s0, by rw [h2]; exact hO⟩, fun h => absurd h (by omega), bz_same hC h1 h2, Or.inl ⟨hb, rfl, rfl, rfl, rfl⟩⟩
  · obtain ⟨hg, rfl, i, j, rfl, rfl, zz, uu, sv, hz, ⟨hp, hC2, hk2⟩, rfl⟩ := h
    have e : zz = _ := iI_inj (Option.some.inj hp) hz (by have := bI_01 (bs i ≠ bs j ∨ ss i ≠ ss j); omega)
    exact ⟨0, zz, _, _, _, rfl, ⟨sv, wset_s⟩, fun _ => hz, bz_set hC2 hk2 ho _, Or.inr ⟨hg, rfl, e, rfl, rfl, rfl⟩⟩
set_option maxHeartbeats 1000000 in
theorem a_split {τ ad : Nat → Nat} {w w' : Wd} {o : Nat} {bs ss : Nat → Int} {pb : Nat → PT} {P Q : Nat → Nat} {ct : Nat → Int} (hC : CS τ ad w bs ss pb P Q ct) (ho : τ o = 199) (hO : OU w o) {vi vn : Int} {r' : Option Value} (h : (¬ ((0 ≤ vi ∧ vi ≤ 2)) ∧ r' = some (iI 1) ∧ w.1 ≤ w'.1 ∧ w'.2 = w.2) ∨ (((0 ≤ vi ∧ vi ≤ 2)) ∧ ¬ ((5 ≤ vn ∧ vn ≤ 997)) ∧ r' = some (iI 2) ∧ w.1 ≤ w'.1 ∧ w'.2 = w.2) ∨ (((0 ≤ vi ∧ vi ≤ 2)) ∧ ((5 ≤ vn ∧ vn ≤ 997)) ∧ r' = some (iI 0) ∧ ∃ (i : Nat) (n : Nat), vi = (i : Int) ∧ vn = (n : Int) ∧ ∃ (zz : Int) (uu : Wd) (sv : Value), (-2147483648 ≤ zz ∧ zz < 2147483648) ∧ (((¬ SPb n = true ∧ (some (iI zz)) = some (iI (-9)) ∧ CS τ ad uu (bs) (ss) (pb) (P) (Q) (iup ct 3 (ct 3 + 1))) ∨ (SPb n = true ∧ (some (iI zz)) = some (iI ((wit n : Nat) : Int)) ∧ CS τ ad uu (bs) (ss) (pb) (nup P i n) (nup Q i 0) (iup ct 2 (ct 2 + 1)))) ∧ KO τ w uu) ∧ w' = wset uu o (true, eO 9 [jJ zz, sv]))) : ∃ (k nv : Int) (P1 Q1 : Nat → Nat) (ct1 : Nat → Int), r' = some (iI k) ∧ OV w' o nv ∧ (k = 0 → -2147483648 ≤ nv ∧ nv < 2147483648) ∧ BZ τ ad o w w' bs ss pb P1 Q1 ct1 ∧ D_split vi vn P Q ct k nv P1 Q1 ct1 := by
  obtain ⟨n0, s0, hO⟩ := hO
  rcases h with h | h | h
  · obtain ⟨hb, rfl, h1, h2⟩ := h
    exact ⟨1, n0, _, _, _, rfl, ⟨s0, by rw [h2]; exact hO⟩, fun h => absurd h (by omega), bz_same hC h1 h2, Or.inl ⟨hb, rfl, rfl, rfl, rfl⟩⟩
  · obtain ⟨hg, hb, rfl, h1, h2⟩ := h
    exact ⟨2, n0, _, _, _, rfl, ⟨s0, by rw [h2]; exact hO⟩, fun h => absurd h (by omega), bz_same hC h1 h2, Or.inr (Or.inl ⟨hg, hb, rfl, rfl, rfl, rfl⟩)⟩
  · obtain ⟨hg, hb, rfl, i, n, rfl, rfl, zz, uu, sv, hz, ⟨hp, hk2⟩, rfl⟩ := h
    rcases hp with ⟨g1, g2, hC2⟩ | ⟨g1, g2, hC2⟩
    · have e : zz = -9 := iI_inj (Option.some.inj g2) hz (by omega)
      exact ⟨0, zz, _, _, _, rfl, ⟨sv, wset_s⟩, fun _ => hz, bz_set hC2 hk2 ho _, Or.inr (Or.inr ⟨hg, hb, rfl, Or.inl ⟨g1, e, rfl, rfl, rfl⟩⟩)⟩
    · have hw := (SPb_v g1).wit.1
      have e : zz = ((wit n : Nat) : Int) := iI_inj (Option.some.inj g2) hz (by omega)
      exact ⟨0, zz, _, _, _, rfl, ⟨sv, wset_s⟩, fun _ => hz, bz_set hC2 hk2 ho _, Or.inr (Or.inr ⟨hg, hb, rfl, Or.inr ⟨g1, e, rfl, rfl, rfl⟩⟩)⟩
set_option maxHeartbeats 1000000 in
theorem a_euclid {τ ad : Nat → Nat} {w w' : Wd} {o : Nat} {bs ss : Nat → Int} {pb : Nat → PT} {P Q : Nat → Nat} {ct : Nat → Int} (hC : CS τ ad w bs ss pb P Q ct) (ho : τ o = 199) (hO : OU w o) {vi : Int} {r' : Option Value} (h : (¬ ((0 ≤ vi ∧ vi ≤ 2)) ∧ r' = some (iI 1) ∧ w.1 ≤ w'.1 ∧ w'.2 = w.2) ∨ (((0 ≤ vi ∧ vi ≤ 2)) ∧ r' = some (iI 0) ∧ ∃ (i : Nat), vi = (i : Int) ∧ ∃ (zz : Int) (uu : Wd) (sv : Value), (-2147483648 ≤ zz ∧ zz < 2147483648) ∧ ((((spS (P i) (Q i)).2.1 = 0 ∧ (some (iI zz)) = some (iI (-9)) ∧ CS τ ad uu (bs) (ss) (pb) (P) (Q) (iup ct 3 (ct 3 + 1))) ∨ ((spS (P i) (Q i)).2.1 ≠ 0 ∧ (some (iI zz)) = some (iI (spS (P i) (Q i + 1)).2.1) ∧ CS τ ad uu (bs) (ss) (pb) (P) (nup Q i (Q i + 1)) (iup ct 2 (ct 2 + 1)))) ∧ KO τ w uu) ∧ w' = wset uu o (true, eO 9 [jJ zz, sv]))) : ∃ (k nv : Int) (Q1 : Nat → Nat) (ct1 : Nat → Int), r' = some (iI k) ∧ OV w' o nv ∧ (k = 0 → -2147483648 ≤ nv ∧ nv < 2147483648) ∧ BZ τ ad o w w' bs ss pb P Q1 ct1 ∧ D_euclid vi P Q ct k nv Q1 ct1 := by
  obtain ⟨n0, s0, hO⟩ := hO
  rcases h with h | h
  · obtain ⟨hb, rfl, h1, h2⟩ := h
    exact ⟨1, n0, _, _, rfl, ⟨s0, by rw [h2]; exact hO⟩, fun h => absurd h (by omega), bz_same hC h1 h2, Or.inl ⟨hb, rfl, rfl, rfl⟩⟩
  · obtain ⟨hg, rfl, i, rfl, zz, uu, sv, hz, ⟨hp, hk2⟩, rfl⟩ := h
    rcases hp with ⟨g1, g2, hC2⟩ | ⟨g1, g2, hC2⟩
    · have e : zz = -9 := iI_inj (Option.some.inj g2) hz (by omega)
      exact ⟨0, zz, _, _, rfl, ⟨sv, wset_s⟩, fun _ => hz, bz_set hC2 hk2 ho _, Or.inr ⟨hg, rfl, Or.inl ⟨g1, e, rfl, rfl⟩⟩⟩
    · have hv := ((hC.S i (by omega)).2.next g1)
      obtain ⟨v1, v2, v3, -⟩ := hv.good
      have hpp := hv.p
      have e : zz = (spS (P i) (Q i + 1)).2.1 := iI_inj (Option.some.inj g2) hz (by omega)
      exact ⟨0, zz, _, _, rfl, ⟨sv, wset_s⟩, fun _ => hz, bz_set hC2 hk2 ho _, Or.inr ⟨hg, rfl, Or.inr ⟨g1, e, rfl, rfl⟩⟩⟩
set_option maxHeartbeats 1000000 in
theorem a_settle {τ ad : Nat → Nat} {w w' : Wd} {o : Nat} {bs ss : Nat → Int} {pb : Nat → PT} {P Q : Nat → Nat} {ct : Nat → Int} (hC : CS τ ad w bs ss pb P Q ct) (ho : τ o = 199) (hO : OU w o) {vi : Int} {r' : Option Value} (h : (¬ ((0 ≤ vi ∧ vi ≤ 2)) ∧ r' = some (iI 1) ∧ w.1 ≤ w'.1 ∧ w'.2 = w.2) ∨ (((0 ≤ vi ∧ vi ≤ 2)) ∧ r' = some (iI 0) ∧ ∃ (i : Nat), vi = (i : Int) ∧ ∃ (zz : Int) (uu : Wd) (sv : Value), (-2147483648 ≤ zz ∧ zz < 2147483648) ∧ (∃ t, Q i ≤ t ∧ SV (P i) t ∧ (∀ j, Q i ≤ j → j < t → (spS (P i) j).2.1 ≠ 0 ∧ ((P i : Nat) : Int) ≤ (spS (P i) j).1 * (spS (P i) j).1) ∧ ((spS (P i) t).2.1 = 0 ∨ (spS (P i) t).1 * (spS (P i) t).1 < ((P i : Nat) : Int)) ∧ (some (iI zz)) = some (iI ((t - Q i : Nat) : Int)) ∧ CS τ ad uu (bs) (ss) (pb) (P) (nup Q i t) (iup ct 2 (ct 2 + 1)) ∧ KO τ w uu) ∧ w' = wset uu o (true, eO 9 [jJ zz, sv]))) : ∃ (k nv : Int) (Q1 : Nat → Nat) (ct1 : Nat → Int), r' = some (iI k) ∧ OV w' o nv ∧ (k = 0 → -2147483648 ≤ nv ∧ nv < 2147483648) ∧ BZ τ ad o w w' bs ss pb P Q1 ct1 ∧ D_settle vi P Q ct k nv Q1 ct1 := by
  obtain ⟨n0, s0, hO⟩ := hO
  rcases h with h | h
  · obtain ⟨hb, rfl, h1, h2⟩ := h
    exact ⟨1, n0, _, _, rfl, ⟨s0, by rw [h2]; exact hO⟩, fun h => absurd h (by omega), bz_same hC h1 h2, Or.inl ⟨hb, rfl, rfl, rfl⟩⟩
  · obtain ⟨hg, rfl, i, rfl, zz, uu, sv, hz, ⟨t, t1, t2, t3, t4, g2, hC2, hk2⟩, rfl⟩ := h
    have t9 := t2.good.2.2.2.2.2.2.2.2
    have e : zz = ((t - Q i : Nat) : Int) := iI_inj (Option.some.inj g2) hz (by omega)
    exact ⟨0, zz, _, _, rfl, ⟨sv, wset_s⟩, fun _ => hz, bz_set hC2 hk2 ho _, Or.inr ⟨hg, rfl, t, t1, t2, t3, t4, e, rfl, rfl⟩⟩
set_option maxHeartbeats 1000000 in
theorem b_open {bs ss ba st pm le ri ct cm : Nat → Int} {pb : Nat → PT} {P Q : Nat → Nat} {sp : Nat → Nat → Int} {th : Int} {t : Nat} (hg : GD ba st pm le ri sp cm th t) (hr : RLx bs ss pb P Q ct ba st pm le ri sp cm) {k nv : Int} {walk b : Int} {bs1 ss1 ct1 : Nat → Int} (h1 : D_open walk b bs ss ct k nv bs1 ss1 ct1) {t2 ans : Int} {ba' st' cm' : Nat → Int} (h2 : ¬ (0 ≤ walk ∧ walk ≤ 2) ∧ t2 = 1 ∧ ans = 0 ∧ ba' = ba ∧ st' = st ∧ cm' = cm ∨ (0 ≤ walk ∧ walk ≤ 2) ∧ ¬ GB b ∧ t2 = 2 ∧ ans = 0 ∧ ba' = ba ∧ st' = st ∧ cm' = cm ∨ (0 ≤ walk ∧ walk ≤ 2) ∧ GB b ∧ t2 = 0 ∧ RT b ans ∧ ba' = iup ba walk.toNat b ∧ st' = iup st walk.toNat 0 ∧ cm' = iup cm 0 (cm 0 + 1)) : GD ba' st' pm le ri sp cm' t2 (t + 1) ∧ RLx bs1 ss1 pb P Q ct1 ba' st' pm le ri sp cm' ∧ k = t2 ∧ (k = 0 → nv = ans) := by
  obtain ⟨g1, g2, g3, g4, g5, g6⟩ := hg
  have h4 := hr.2.2
  rcases h1 with ⟨a1, a2, a3, a4, a5⟩ | ⟨a1, a0, a2, a3, a4, a5⟩ | ⟨a1, a0, a2, a6, a3, a4, a5⟩
  · rcases h2 with ⟨c1, c2, c3, c4, c5, c6⟩ | ⟨c1, c0, c2, c3, c4, c5, c6⟩ | ⟨c1, c0, c2, c3, c4, c5, c6⟩
    · subst a3 a4 a5 c4 c5 c6
      exact ⟨⟨g1, g2, g3, g4, by omega, (cm_eq5 g6)⟩, rl_c hr h4, by omega, by omega⟩
    · omega
    · omega
  · rcases h2 with ⟨c1, c2, c3, c4, c5, c6⟩ | ⟨c1, c0, c2, c3, c4, c5, c6⟩ | ⟨c1, c0, c2, c3, c4, c5, c6⟩
    · omega
    · subst a3 a4 a5 c4 c5 c6
      exact ⟨⟨g1, g2, g3, g4, by omega, (cm_eq5 g6)⟩, rl_c hr h4, by omega, by omega⟩
    · exact (a0 c0).elim
  · rcases h2 with ⟨c1, c2, c3, c4, c5, c6⟩ | ⟨c1, c0, c2, c3, c4, c5, c6⟩ | ⟨c1, c0, c2, c3, c4, c5, c6⟩
    · omega
    · exact (c0 a0).elim
    · subst a3 a4 a5 c4 c5 c6
      exact ⟨⟨gb_w g1 a0 _, st_w g2 (by omega) _, g3, g4, by omega, cm_up g6 0⟩, rl_w hr (ctu h4 (by omega)) _ _ _, by omega, fun _ => RT_uniq a6 c3⟩
set_option maxHeartbeats 1000000 in
theorem b_forth {bs ss ba st pm le ri ct cm : Nat → Int} {pb : Nat → PT} {P Q : Nat → Nat} {sp : Nat → Nat → Int} {th : Int} {t : Nat} (hg : GD ba st pm le ri sp cm th t) (hr : RLx bs ss pb P Q ct ba st pm le ri sp cm) {k nv : Int} {walk many : Int} {ss1 ct1 : Nat → Int} (h1 : D_forth walk many ss ct k nv ss1 ct1) {t2 ans : Int} {st' cm' : Nat → Int} (h2 : ¬ (0 ≤ walk ∧ walk ≤ 2) ∧ t2 = 1 ∧ ans = 0 ∧ st' = st ∧ cm' = cm ∨ (0 ≤ walk ∧ walk ≤ 2) ∧ ¬ (1 ≤ many ∧ many ≤ 6) ∧ t2 = 2 ∧ ans = 0 ∧ st' = st ∧ cm' = cm ∨ (0 ≤ walk ∧ walk ≤ 2) ∧ (1 ≤ many ∧ many ≤ 6) ∧ t2 = 0 ∧ 24 < st walk.toNat + many ∧ ans = -9 ∧ st' = st ∧ cm' = iup cm 3 (cm 3 + 1) ∨ (0 ≤ walk ∧ walk ≤ 2) ∧ (1 ≤ many ∧ many ≤ 6) ∧ t2 = 0 ∧ st walk.toNat + many ≤ 24 ∧ ans = st walk.toNat + many ∧ st' = iup st walk.toNat (st walk.toNat + many) ∧ cm' = iup cm 0 (cm 0 + 1)) : GD ba st' pm le ri sp cm' t2 (t + 1) ∧ RLx bs ss1 pb P Q ct1 ba st' pm le ri sp cm' ∧ k = t2 ∧ (k = 0 → nv = ans) := by
  obtain ⟨g1, g2, g3, g4, g5, g6⟩ := hg
  have h4 := hr.2.2
  have hw : (0 ≤ walk ∧ walk ≤ 2) → ss walk.toNat = st walk.toNat ∧ 0 ≤ st walk.toNat ∧ st walk.toNat ≤ 24 := fun q => ⟨(hr.1 walk.toNat (by omega)).2.1, g2 walk.toNat (by omega)⟩
  rcases h1 with ⟨a1, a2, a3, a4⟩ | ⟨a1, a0, a2, a3, a4⟩ | ⟨a1, a0, a2, ⟨a5, a6, a3, a4⟩ | ⟨a5, a6, a3, a4⟩⟩
  · rcases h2 with ⟨c1, c2, c3, c4, c5⟩ | ⟨c1, c0, c2, c3, c4, c5⟩ | ⟨c1, c0, c2, c6, c3, c4, c5⟩ | ⟨c1, c0, c2, c6, c3, c4, c5⟩
    · subst a3 a4 c4 c5
      exact ⟨⟨g1, g2, g3, g4, by omega, (cm_eq5 g6)⟩, rl_c hr h4, by omega, by omega⟩
    · omega
    · omega
    · omega
  · rcases h2 with ⟨c1, c2, c3, c4, c5⟩ | ⟨c1, c0, c2, c3, c4, c5⟩ | ⟨c1, c0, c2, c6, c3, c4, c5⟩ | ⟨c1, c0, c2, c6, c3, c4, c5⟩
    · omega
    · subst a3 a4 c4 c5
      exact ⟨⟨g1, g2, g3, g4, by omega, (cm_eq5 g6)⟩, rl_c hr h4, by omega, by omega⟩
    · omega
    · omega
  · have hw := hw a1
    rcases h2 with ⟨c1, c2, c3, c4, c5⟩ | ⟨c1, c0, c2, c3, c4, c5⟩ | ⟨c1, c0, c2, c6, c3, c4, c5⟩ | ⟨c1, c0, c2, c6, c3, c4, c5⟩
    · omega
    · omega
    · subst a3 a4 c4 c5
      exact ⟨⟨g1, g2, g3, g4, by omega, cm_up g6 3⟩, rl_c hr (ctu h4 (by omega)), by omega, by omega⟩
    · omega
  · have hw := hw a1
    rcases h2 with ⟨c1, c2, c3, c4, c5⟩ | ⟨c1, c0, c2, c3, c4, c5⟩ | ⟨c1, c0, c2, c6, c3, c4, c5⟩ | ⟨c1, c0, c2, c6, c3, c4, c5⟩
    · omega
    · omega
    · omega
    · subst a3 a4 c4 c5
      rw [hw.1]
      exact ⟨⟨g1, st_w g2 (by omega) _, g3, g4, by omega, cm_up g6 0⟩, rl_ws hr (ctu h4 (by omega)) _ _, by omega, by omega⟩
set_option maxHeartbeats 1000000 in
theorem b_back {bs ss ba st pm le ri ct cm : Nat → Int} {pb : Nat → PT} {P Q : Nat → Nat} {sp : Nat → Nat → Int} {th : Int} {t : Nat} (hg : GD ba st pm le ri sp cm th t) (hr : RLx bs ss pb P Q ct ba st pm le ri sp cm) {k nv : Int} {walk : Int} {ss1 ct1 : Nat → Int} (h1 : D_back walk ss ct k nv ss1 ct1) {t2 ans : Int} {st' cm' : Nat → Int} (h2 : ¬ (0 ≤ walk ∧ walk ≤ 2) ∧ t2 = 1 ∧ ans = 0 ∧ st' = st ∧ cm' = cm ∨ (0 ≤ walk ∧ walk ≤ 2) ∧ t2 = 0 ∧ st walk.toNat = 0 ∧ ans = -9 ∧ st' = st ∧ cm' = iup cm 3 (cm 3 + 1) ∨ (0 ≤ walk ∧ walk ≤ 2) ∧ t2 = 0 ∧ 0 < st walk.toNat ∧ ans = st walk.toNat - 1 ∧ st' = iup st walk.toNat (st walk.toNat - 1) ∧ cm' = iup cm 0 (cm 0 + 1)) : GD ba st' pm le ri sp cm' t2 (t + 1) ∧ RLx bs ss1 pb P Q ct1 ba st' pm le ri sp cm' ∧ k = t2 ∧ (k = 0 → nv = ans) := by
  obtain ⟨g1, g2, g3, g4, g5, g6⟩ := hg
  have h4 := hr.2.2
  have hw : (0 ≤ walk ∧ walk ≤ 2) → ss walk.toNat = st walk.toNat ∧ 0 ≤ st walk.toNat ∧ st walk.toNat ≤ 24 := fun q => ⟨(hr.1 walk.toNat (by omega)).2.1, g2 walk.toNat (by omega)⟩
  rcases h1 with ⟨a1, a2, a3, a4⟩ | ⟨a1, a2, ⟨a5, a6, a3, a4⟩ | ⟨a5, a6, a3, a4⟩⟩
  · rcases h2 with ⟨c1, c2, c3, c4, c5⟩ | ⟨c1, c2, c6, c3, c4, c5⟩ | ⟨c1, c2, c6, c3, c4, c5⟩
    · subst a3 a4 c4 c5
      exact ⟨⟨g1, g2, g3, g4, by omega, (cm_eq5 g6)⟩, rl_c hr h4, by omega, by omega⟩
    · omega
    · omega
  · have hw := hw a1
    rcases h2 with ⟨c1, c2, c3, c4, c5⟩ | ⟨c1, c2, c6, c3, c4, c5⟩ | ⟨c1, c2, c6, c3, c4, c5⟩
    · omega
    · subst a3 a4 c4 c5
      exact ⟨⟨g1, g2, g3, g4, by omega, cm_up g6 3⟩, rl_c hr (ctu h4 (by omega)), by omega, by omega⟩
    · omega
  · have hw := hw a1
    rcases h2 with ⟨c1, c2, c3, c4, c5⟩ | ⟨c1, c2, c6, c3, c4, c5⟩ | ⟨c1, c2, c6, c3, c4, c5⟩
    · omega
    · omega
    · subst a3 a4 c4 c5
      rw [hw.1]
      exact ⟨⟨g1, st_w g2 (by omega) _, g3, g4, by omega, cm_up g6 0⟩, rl_ws hr (ctu h4 (by omega)) _ _, by omega, by omega⟩
set_option maxHeartbeats 1000000 in
theorem b_walkCopy {bs ss ba st pm le ri ct cm : Nat → Int} {pb : Nat → PT} {P Q : Nat → Nat} {sp : Nat → Nat → Int} {th : Int} {t : Nat} (hg : GD ba st pm le ri sp cm th t) (hr : RLx bs ss pb P Q ct ba st pm le ri sp cm) {k nv : Int} {walk into : Int} {bs1 ss1 ct1 : Nat → Int} (h1 : D_walkCopy walk into bs ss ct k nv bs1 ss1 ct1) {t2 ans : Int} {ba' st' cm' : Nat → Int} (h2 : ¬ ((0 ≤ walk ∧ walk ≤ 2) ∧ (0 ≤ into ∧ into ≤ 2)) ∧ t2 = 1 ∧ ans = 0 ∧ ba' = ba ∧ st' = st ∧ cm' = cm ∨ ((0 ≤ walk ∧ walk ≤ 2) ∧ (0 ≤ into ∧ into ≤ 2)) ∧ t2 = 0 ∧ ans = bI (ba walk.toNat ≠ ba into.toNat ∨ st walk.toNat ≠ st into.toNat) ∧ ba' = iup ba into.toNat (ba walk.toNat) ∧ st' = iup st into.toNat (st walk.toNat) ∧ cm' = iup cm 0 (cm 0 + 1)) : GD ba' st' pm le ri sp cm' t2 (t + 1) ∧ RLx bs1 ss1 pb P Q ct1 ba' st' pm le ri sp cm' ∧ k = t2 ∧ (k = 0 → nv = ans) := by
  obtain ⟨g1, g2, g3, g4, g5, g6⟩ := hg
  have h4 := hr.2.2
  rcases h1 with ⟨a1, a2, a3, a4, a5⟩ | ⟨a1, a2, a6, a3, a4, a5⟩
  · rcases h2 with ⟨c1, c2, c3, c4, c5, c6⟩ | ⟨c1, c2, c3, c4, c5, c6⟩
    · subst a3 a4 a5 c4 c5 c6
      exact ⟨⟨g1, g2, g3, g4, by omega, (cm_eq5 g6)⟩, rl_c hr h4, by omega, by omega⟩
    · omega
  · rcases h2 with ⟨c1, c2, c3, c4, c5, c6⟩ | ⟨c1, c2, c3, c4, c5, c6⟩
    · omega
    · obtain ⟨e1, e2, -⟩ := hr.1 walk.toNat (by omega)
      obtain ⟨e3, e4, -⟩ := hr.1 into.toNat (by omega)
      subst a3 a4 a5 c4 c5 c6
      rw [e1, e2]
      rw [e1, e2, e3, e4] at a6
      exact ⟨⟨gb_w g1 (g1 _ (by omega)) _, st_w g2 (g2 _ (by omega)) _, g3, g4, by omega, cm_up g6 0⟩, rl_w hr (ctu h4 (by omega)) _ _ _, by omega, fun _ => a6.trans c3.symm⟩
set_option maxHeartbeats 1000000 in
theorem b_split {bs ss ba st pm le ri ct cm : Nat → Int} {pb : Nat → PT} {P Q : Nat → Nat} {sp : Nat → Nat → Int} {th : Int} {t : Nat} (hg : GD ba st pm le ri sp cm th t) (hr : RLx bs ss pb P Q ct ba st pm le ri sp cm) {k nv : Int} {v num : Int} {P1 Q1 : Nat → Nat} {ct1 : Nat → Int} (h1 : D_split v num P Q ct k nv P1 Q1 ct1) {t2 ans : Int} {sp' : Nat → Nat → Int} {cm' : Nat → Int} (h2 : ¬ (0 ≤ v ∧ v ≤ 2) ∧ t2 = 1 ∧ ans = 0 ∧ sp' = sp ∧ cm' = cm ∨ (0 ≤ v ∧ v ≤ 2) ∧ ¬ (5 ≤ num ∧ num ≤ 997) ∧ t2 = 2 ∧ ans = 0 ∧ sp' = sp ∧ cm' = cm ∨ (0 ≤ v ∧ v ≤ 2) ∧ (5 ≤ num ∧ num ≤ 997) ∧ t2 = 0 ∧ ¬ (SPb num.toNat = true) ∧ ans = -9 ∧ sp' = sp ∧ cm' = iup cm 3 (cm 3 + 1) ∨ (0 ≤ v ∧ v ≤ 2) ∧ (5 ≤ num ∧ num ≤ 997) ∧ t2 = 0 ∧ SPb num.toNat = true ∧ ∃ f : Nat → Int, SpR f num.toNat 0 ∧ ans = ((wit num.toNat : Nat) : Int) ∧ sp' = sup sp v.toNat f ∧ cm' = iup cm 2 (cm 2 + 1)) : GD ba st pm le ri sp' cm' t2 (t + 1) ∧ RLx bs ss pb P1 Q1 ct1 ba st pm le ri sp' cm' ∧ k = t2 ∧ (k = 0 → nv = ans) := by
  obtain ⟨g1, g2, g3, g4, g5, g6⟩ := hg
  have h4 := hr.2.2
  rcases h1 with ⟨a1, a2, a3, a4, a5⟩ | ⟨a1, a0, a2, a3, a4, a5⟩ | ⟨a1, a0, a2, ⟨a6, a7, a3, a4, a5⟩ | ⟨a6, a7, a3, a4, a5⟩⟩
  · rcases h2 with ⟨c1, c2, c3, c4, c5⟩ | ⟨c1, c0, c2, c3, c4, c5⟩ | ⟨c1, c0, c2, c6, c3, c4, c5⟩ | ⟨c1, c0, c2, c6, f, c7, c3, c4, c5⟩
    · subst a3 a4 a5 c4 c5
      exact ⟨⟨g1, g2, g3, g4, by omega, (cm_eq5 g6)⟩, rl_c hr h4, by omega, by omega⟩
    · omega
    · omega
    · omega
  · rcases h2 with ⟨c1, c2, c3, c4, c5⟩ | ⟨c1, c0, c2, c3, c4, c5⟩ | ⟨c1, c0, c2, c6, c3, c4, c5⟩ | ⟨c1, c0, c2, c6, f, c7, c3, c4, c5⟩
    · omega
    · subst a3 a4 a5 c4 c5
      exact ⟨⟨g1, g2, g3, g4, by omega, (cm_eq5 g6)⟩, rl_c hr h4, by omega, by omega⟩
    · omega
    · omega
  · rcases h2 with ⟨c1, c2, c3, c4, c5⟩ | ⟨c1, c0, c2, c3, c4, c5⟩ | ⟨c1, c0, c2, c6, c3, c4, c5⟩ | ⟨c1, c0, c2, c6, f, c7, c3, c4, c5⟩
    · omega
    · omega
    · subst a3 a4 a5 c4 c5
      exact ⟨⟨g1, g2, g3, g4, by omega, cm_up g6 3⟩, rl_c hr (ctu h4 (by omega)), by omega, by omega⟩
    · exact (a6 c6).elim
  · rcases h2 with ⟨c1, c2, c3, c4, c5⟩ | ⟨c1, c0, c2, c3, c4, c5⟩ | ⟨c1, c0, c2, c6, c3, c4, c5⟩ | ⟨c1, c0, c2, c6, f, c7, c3, c4, c5⟩
    · omega
    · omega
    · exact (c6 a6).elim
    · subst a3 a4 a5 c4 c5
      exact ⟨⟨g1, g2, g3, hz_s g4 c7, by omega, cm_up g6 2⟩, rl_s hr (ctu h4 (by omega)) c7, by omega, fun _ => a7.trans c3.symm⟩
set_option maxHeartbeats 1000000 in
theorem b_euclid {bs ss ba st pm le ri ct cm : Nat → Int} {pb : Nat → PT} {P Q : Nat → Nat} {sp : Nat → Nat → Int} {th : Int} {t : Nat} (hg : GD ba st pm le ri sp cm th t) (hr : RLx bs ss pb P Q ct ba st pm le ri sp cm) {k nv : Int} {v : Int} {Q1 : Nat → Nat} {ct1 : Nat → Int} (h1 : D_euclid v P Q ct k nv Q1 ct1) {t2 ans : Int} {sp' : Nat → Nat → Int} {cm' : Nat → Int} (h2 : ¬ (0 ≤ v ∧ v ≤ 2) ∧ t2 = 1 ∧ ans = 0 ∧ sp' = sp ∧ cm' = cm ∨ (0 ≤ v ∧ v ≤ 2) ∧ t2 = 0 ∧ sp v.toNat 2 = 0 ∧ ans = -9 ∧ sp' = sp ∧ cm' = iup cm 3 (cm 3 + 1) ∨ (0 ≤ v ∧ v ≤ 2) ∧ t2 = 0 ∧ sp v.toNat 2 ≠ 0 ∧ ∃ (p k : Nat) (f : Nat → Int), SpR (sp v.toNat) p k ∧ SpR f p (k + 1) ∧ ans = f 2 ∧ sp' = sup sp v.toNat f ∧ cm' = iup cm 2 (cm 2 + 1)) : GD ba st pm le ri sp' cm' t2 (t + 1) ∧ RLx bs ss pb P Q1 ct1 ba st pm le ri sp' cm' ∧ k = t2 ∧ (k = 0 → nv = ans) := by
  obtain ⟨g1, g2, g3, g4, g5, g6⟩ := hg
  have h4 := hr.2.2
  have hw : (0 ≤ v ∧ v ≤ 2) → SpR (sp v.toNat) (P v.toNat) (Q v.toNat) := fun q => (hr.1 v.toNat (by omega)).2.2
  rcases h1 with ⟨a1, a2, a4, a5⟩ | ⟨a1, a2, ⟨a6, a7, a4, a5⟩ | ⟨a6, a7, a4, a5⟩⟩
  · rcases h2 with ⟨c1, c2, c3, c4, c5⟩ | ⟨c1, c2, c6, c3, c4, c5⟩ | ⟨c1, c2, c6, p, n, f, c7, c8, c3, c4, c5⟩
    · subst a4 a5 c4 c5
      exact ⟨⟨g1, g2, g3, g4, by omega, (cm_eq5 g6)⟩, rl_c hr h4, by omega, by omega⟩
    · omega
    · omega
  · have hw := hw a1
    have e2 := hw.2.2.2.1
    rcases h2 with ⟨c1, c2, c3, c4, c5⟩ | ⟨c1, c2, c6, c3, c4, c5⟩ | ⟨c1, c2, c6, p, n, f, c7, c8, c3, c4, c5⟩
    · omega
    · subst a4 a5 c4 c5
      exact ⟨⟨g1, g2, g3, g4, by omega, cm_up g6 3⟩, rl_c hr (ctu h4 (by omega)), by omega, by omega⟩
    · omega
  · have hw := hw a1
    have e2 := hw.2.2.2.1
    rcases h2 with ⟨c1, c2, c3, c4, c5⟩ | ⟨c1, c2, c6, c3, c4, c5⟩ | ⟨c1, c2, c6, p, n, f, c7, c8, c3, c4, c5⟩
    · omega
    · omega
    · obtain ⟨e3, e4⟩ := SpR_u c7 hw
      subst a4 a5 c4 c5
      rw [e3, e4] at c8
      have h9 := rl_s (i := v.toNat) hr (ctu h4 (j := 2) (by omega)) c8
      rw [nup_id] at h9
      exact ⟨⟨g1, g2, g3, hz_s g4 c8, by omega, cm_up g6 2⟩, h9, by omega, fun _ => by rw [a7, c3]; exact c8.2.2.2.1.symm⟩
set_option maxHeartbeats 1000000 in
theorem b_settle {bs ss ba st pm le ri ct cm : Nat → Int} {pb : Nat → PT} {P Q : Nat → Nat} {sp : Nat → Nat → Int} {th : Int} {t : Nat} (hg : GD ba st pm le ri sp cm th t) (hr : RLx bs ss pb P Q ct ba st pm le ri sp cm) {k nv : Int} {v : Int} {Q1 : Nat → Nat} {ct1 : Nat → Int} (h1 : D_settle v P Q ct k nv Q1 ct1) {t2 ans : Int} {sp' : Nat → Nat → Int} {cm' : Nat → Int} (h2 : ¬ (0 ≤ v ∧ v ≤ 2) ∧ t2 = 1 ∧ ans = 0 ∧ sp' = sp ∧ cm' = cm ∨ (0 ≤ v ∧ v ≤ 2) ∧ t2 = 0 ∧ ∃ (p k j : Nat) (f : Nat → Int), SpR (sp v.toNat) p k ∧ SpR f p (k + j) ∧ (spS p (k + j)).1 * (spS p (k + j)).1 < p ∧ (∀ i, k ≤ i → i < k + j → p ≤ (spS p i).1 * (spS p i).1) ∧ ans = j ∧ sp' = sup sp v.toNat f ∧ cm' = iup cm 2 (cm 2 + 1)) : GD ba st pm le ri sp' cm' t2 (t + 1) ∧ RLx bs ss pb P Q1 ct1 ba st pm le ri sp' cm' ∧ k = t2 ∧ (k = 0 → nv = ans) := by
  obtain ⟨g1, g2, g3, g4, g5, g6⟩ := hg
  have h4 := hr.2.2
  have hw : (0 ≤ v ∧ v ≤ 2) → SpR (sp v.toNat) (P v.toNat) (Q v.toNat) := fun q => (hr.1 v.toNat (by omega)).2.2
  rcases h1 with ⟨a1, a2, a4, a5⟩ | ⟨a1, a2, s, b1, b2, b3, b4, a7, a4, a5⟩
  · rcases h2 with ⟨c1, c2, c3, c4, c5⟩ | ⟨c1, c2, p, n, j, f, c6, c7, c8, c9, c3, c4, c5⟩
    · subst a4 a5 c4 c5
      exact ⟨⟨g1, g2, g3, g4, by omega, (cm_eq5 g6)⟩, rl_c hr h4, by omega, by omega⟩
    · omega
  · have hw := hw a1
    rcases h2 with ⟨c1, c2, c3, c4, c5⟩ | ⟨c1, c2, p, n, j, f, c6, c7, c8, c9, c3, c4, c5⟩
    · omega
    · obtain ⟨e3, e4⟩ := SpR_u c6 hw
      subst a4 a5 c4 c5
      subst e3 e4
      have hpp := b2.p
      have es : s = Q v.toNat + j := by
        rcases Nat.lt_or_ge s (Q v.toNat + j) with q | q
        · have d1 := c9 s b1 q
          rcases b4 with b4 | b4
          · have d2 := b2.good.2.2.2.2.2.1 b4
            rw [d2] at d1
            omega
          · omega
        · rcases Nat.lt_or_ge (Q v.toNat + j) s with q2 | q2
          · have d1 := (b3 (Q v.toNat + j) (by omega) q2).2
            omega
          · omega
      subst es
      have h9 := rl_s (i := v.toNat) hr (ctu h4 (j := 2) (by omega)) c7
      rw [nup_id] at h9
      exact ⟨⟨g1, g2, g3, hz_s g4 c7, by omega, cm_up g6 2⟩, h9, by omega, fun _ => by rw [a7, c3]; omega⟩
/-! the model's pairs stay good -/
def PX (pm le ri cm : Nat → Int) (t2 : Int) (pm' le' ri' cm' : Nat → Int) (t : Nat) : Prop := (0 ≤ t2 ∧ t2 ≤ 2) ∧ HPp pm' le' ri' ∧ (∀ i, i < 5 → 0 ≤ cm' i ∧ cm' i ≤ ((t + 1 : Nat) : Int)) ∧ cm' 4 = cm 4
theorem px_no {pm le ri cm pm' le' ri' cm' : Nat → Int} {t2 : Int} {t : Nat} (hP : HPp pm le ri) (hc : ∀ i, i < 5 → 0 ≤ cm i ∧ cm i ≤ (t : Int)) (h : 0 ≤ t2 ∧ t2 ≤ 2) (e1 : pm' = pm) (e2 : le' = le) (e3 : ri' = ri) (e4 : cm' = cm) : PX pm le ri cm t2 pm' le' ri' cm' t := by
  subst e1 e2 e3 e4
  exact ⟨h, hP, cm_eq5 hc, rfl⟩
theorem px_can {pm le ri cm pm' le' ri' cm' : Nat → Int} {t2 : Int} {t : Nat} (hP : HPp pm le ri) (hc : ∀ i, i < 5 → 0 ≤ cm i ∧ cm i ≤ (t : Int)) (h : t2 = 0) (e1 : pm' = pm) (e2 : le' = le) (e3 : ri' = ri) (e4 : cm' = iup cm 3 (cm 3 + 1)) : PX pm le ri cm t2 pm' le' ri' cm' t := by
  subst e1 e2 e3 e4
  exact ⟨by omega, hP, cm_up hc 3, by rw [iup_n (by omega)]⟩
theorem px_up {pm le ri cm pm' le' ri' cm' : Nat → Int} {t2 : Int} {t : Nat} (hP : HPp pm le ri) (hc : ∀ i, i < 5 → 0 ≤ cm i ∧ cm i ≤ (t : Int)) (h : t2 = 0) {i : Nat} {b x y : Int} (hb : GB b) (hx : ¬ LGN ≤ aB x) (hy : ¬ LGN ≤ aB y) (e1 : pm' = iup pm i b) (e2 : le' = iup le i x) (e3 : ri' = iup ri i y) (e4 : cm' = iup cm 1 (cm 1 + 1)) : PX pm le ri cm t2 pm' le' ri' cm' t := by
  subst e1 e2 e3 e4
  refine ⟨by omega, fun j hj => ?_, cm_up hc 1, by rw [iup_n (by omega)]⟩
  by_cases q : j = i
  · subst q; rw [iup_s, iup_s, iup_s]; exact ⟨hb, hx, hy⟩
  · rw [iup_n q, iup_n q, iup_n q]; exact hP j hj
theorem lg_sm {x : Int} (h : -2147483648 ≤ x ∧ x ≤ 2147483648) : ¬ LGN ≤ aB x := by
  unfold aB
  split <;> (show ¬ (1208925819614629174706176 : Int) ≤ _; omega)
theorem aB_dv {x d y : Int} (h : x * d = y) (hd : d ≠ 0) (hy : ¬ LGN ≤ aB y) : ¬ LGN ≤ aB x := by
  have h1 := aB_mul (y := x) (d := d)
  rw [h] at h1
  have h2 := aB_pos hd
  have h3 : 0 ≤ aB x := by unfold aB; split <;> omega
  have h4 : aB x * 1 ≤ aB x * aB d := Int.mul_le_mul_of_nonneg_left (by omega) h3
  omega
theorem bp_put {pm le ri cm : Nat → Int} {t : Nat} (hP : HPp pm le ri) (hc : ∀ i, i < 5 → 0 ≤ cm i ∧ cm i ≤ (t : Int)) {t2 ans : Int} {pm' le' ri' cm' : Nat → Int} {v b x y : Int}  (h : ¬ (0 ≤ v ∧ v ≤ 2) ∧ t2 = 1 ∧ ans = 0 ∧ pm' = pm ∧ le' = le ∧ ri' = ri ∧ cm' = cm ∨ (0 ≤ v ∧ v ≤ 2) ∧ ¬ (GB b ∧ (-1000 ≤ x ∧ x ≤ 1000) ∧ (-1000 ≤ y ∧ y ≤ 1000)) ∧ t2 = 2 ∧ ans = 0 ∧ pm' = pm ∧ le' = le ∧ ri' = ri ∧ cm' = cm ∨ (0 ≤ v ∧ v ≤ 2) ∧ (GB b ∧ (-1000 ≤ x ∧ x ≤ 1000) ∧ (-1000 ≤ y ∧ y ≤ 1000)) ∧ t2 = 0 ∧ ans = bI (¬ (pm v.toNat = b ∧ le v.toNat = x ∧ ri v.toNat = y)) ∧ pm' = iup pm v.toNat b ∧ le' = iup le v.toNat x ∧ ri' = iup ri v.toNat y ∧ cm' = iup cm 1 (cm 1 + 1)) : PX pm le ri cm t2 pm' le' ri' cm' t := by
  rcases h with ⟨-, h, -, a, b, c, d⟩ | ⟨-, -, h, -, a, b, c, d⟩ | ⟨-, ⟨g1, g2, g3⟩, h, -, a, b, c, d⟩
  · exact px_no hP hc (by omega) a b c d
  · exact px_no hP hc (by omega) a b c d
  · exact px_up hP hc h g1 (lg_sm (by omega)) (lg_sm (by omega)) a b c d
theorem bp_mirror {pm le ri cm : Nat → Int} {t : Nat} (hP : HPp pm le ri) (hc : ∀ i, i < 5 → 0 ≤ cm i ∧ cm i ≤ (t : Int)) {t2 ans : Int} {pm' le' ri' cm' : Nat → Int} {v z : Int}  (h : ¬ (0 ≤ v ∧ v ≤ 2) ∧ t2 = 1 ∧ ans = 0 ∧ pm' = pm ∧ le' = le ∧ ri' = ri ∧ cm' = cm ∨ (0 ≤ v ∧ v ≤ 2) ∧ t2 = 0 ∧ ∃ x : Int, (z = 1 ∧ x = - le v.toNat ∨ z = 0 ∧ x = le v.toNat) ∧ ans = bI (¬ (pm v.toNat = (pm v.toNat) ∧ le v.toNat = x ∧ ri v.toNat = (- ri v.toNat))) ∧ pm' = iup pm v.toNat (pm v.toNat) ∧ le' = iup le v.toNat x ∧ ri' = iup ri v.toNat (- ri v.toNat) ∧ cm' = iup cm 1 (cm 1 + 1)) : PX pm le ri cm t2 pm' le' ri' cm' t := by
  rcases h with ⟨-, h, -, a, b, c, d⟩ | ⟨g, h, x, hx, -, a, b, c, d⟩
  · exact px_no hP hc (by omega) a b c d
  · obtain ⟨h1, h2, h3⟩ := hP v.toNat (by omega)
    refine px_up hP hc h h1 ?_ (by rw [aB_neg]; exact h3) a b c d
    rcases hx with ⟨-, q⟩ | ⟨-, q⟩
    · rw [q, aB_neg]; exact h2
    · rw [q]; exact h2
theorem bp_least {pm le ri cm : Nat → Int} {t : Nat} (hP : HPp pm le ri) (hc : ∀ i, i < 5 → 0 ≤ cm i ∧ cm i ≤ (t : Int)) {t2 ans : Int} {pm' le' ri' cm' : Nat → Int} {v b : Int}  (h : ¬ (0 ≤ v ∧ v ≤ 2) ∧ t2 = 1 ∧ ans = 0 ∧ pm' = pm ∧ le' = le ∧ ri' = ri ∧ cm' = cm ∨ (0 ≤ v ∧ v ≤ 2) ∧ ¬ GB b ∧ t2 = 2 ∧ ans = 0 ∧ pm' = pm ∧ le' = le ∧ ri' = ri ∧ cm' = cm ∨ (0 ≤ v ∧ v ≤ 2) ∧ GB b ∧ t2 = 0 ∧ ∃ r, RT b r ∧ ans = bI (¬ (pm v.toNat = b ∧ le v.toNat = (leaP b r) ∧ ri v.toNat = (leaQ b r))) ∧ pm' = iup pm v.toNat b ∧ le' = iup le v.toNat (leaP b r) ∧ ri' = iup ri v.toNat (leaQ b r) ∧ cm' = iup cm 1 (cm 1 + 1)) : PX pm le ri cm t2 pm' le' ri' cm' t := by
  rcases h with ⟨-, h, -, a, b, c, d⟩ | ⟨-, -, h, -, a, b, c, d⟩ | ⟨-, g, h, r, hr, -, a, b, c, d⟩
  · exact px_no hP hc (by omega) a b c d
  · exact px_no hP hc (by omega) a b c d
  · obtain ⟨l1, l2, l3, l4, -⟩ := lea_ok g hr
    exact px_up hP hc h g (lg_sm (by omega)) (lg_sm (by omega)) a b c d
theorem bp_take {pm le ri cm : Nat → Int} {t : Nat} (hP : HPp pm le ri) (hc : ∀ i, i < 5 → 0 ≤ cm i ∧ cm i ≤ (t : Int)) {t2 ans : Int} {pm' le' ri' cm' : Nat → Int} {v into : Int} {ba st : Nat → Int} (hB : ∀ i, i < 3 → GB (ba i)) (h : ¬ ((0 ≤ v ∧ v ≤ 2) ∧ (0 ≤ into ∧ into ≤ 2)) ∧ t2 = 1 ∧ ans = 0 ∧ pm' = pm ∧ le' = le ∧ ri' = ri ∧ cm' = cm ∨ ((0 ≤ v ∧ v ≤ 2) ∧ (0 ≤ into ∧ into ≤ 2)) ∧ t2 = 0 ∧ ∃ r, RT (ba v.toNat) r ∧ ((LGN ≤ aB (pq (ba v.toNat) r 1 r (st v.toNat).toNat).1 ∨ LGN ≤ aB (pq (ba v.toNat) r 0 1 (st v.toNat).toNat).1) ∧ ans = -9 ∧ pm' = pm ∧ le' = le ∧ ri' = ri ∧ cm' = iup cm 3 (cm 3 + 1) ∨ ¬ (LGN ≤ aB (pq (ba v.toNat) r 1 r (st v.toNat).toNat).1 ∨ LGN ≤ aB (pq (ba v.toNat) r 0 1 (st v.toNat).toNat).1) ∧ ans = bI (¬ (pm into.toNat = (ba v.toNat) ∧ le into.toNat = (pq (ba v.toNat) r 1 r (st v.toNat).toNat).1 ∧ ri into.toNat = (pq (ba v.toNat) r 0 1 (st v.toNat).toNat).1)) ∧ pm' = iup pm into.toNat (ba v.toNat) ∧ le' = iup le into.toNat (pq (ba v.toNat) r 1 r (st v.toNat).toNat).1 ∧ ri' = iup ri into.toNat (pq (ba v.toNat) r 0 1 (st v.toNat).toNat).1 ∧ cm' = iup cm 1 (cm 1 + 1))) : PX pm le ri cm t2 pm' le' ri' cm' t := by
  rcases h with ⟨-, h, -, a, b, c, d⟩ | ⟨g, h, r, hr, ⟨-, -, a, b, c, d⟩ | ⟨q, -, a, b, c, d⟩⟩
  · exact px_no hP hc (by omega) a b c d
  · exact px_can hP hc h a b c d
  · exact px_up hP hc h (hB v.toNat (by omega)) (fun z => q (Or.inl z)) (fun z => q (Or.inr z)) a b c d
theorem bp_compose {pm le ri cm : Nat → Int} {t : Nat} (hP : HPp pm le ri) (hc : ∀ i, i < 5 → 0 ≤ cm i ∧ cm i ≤ (t : Int)) {t2 ans : Int} {pm' le' ri' cm' : Nat → Int} {v o into : Int}  (h : ¬ ((0 ≤ v ∧ v ≤ 2) ∧ (0 ≤ o ∧ o ≤ 2) ∧ (0 ≤ into ∧ into ≤ 2)) ∧ t2 = 1 ∧ ans = 0 ∧ pm' = pm ∧ le' = le ∧ ri' = ri ∧ cm' = cm ∨ ((0 ≤ v ∧ v ≤ 2) ∧ (0 ≤ o ∧ o ≤ 2) ∧ (0 ≤ into ∧ into ≤ 2)) ∧ t2 = 0 ∧ pm v.toNat ≠ pm o.toNat ∧ ans = -9 ∧ pm' = pm ∧ le' = le ∧ ri' = ri ∧ cm' = iup cm 3 (cm 3 + 1) ∨ ((0 ≤ v ∧ v ≤ 2) ∧ (0 ≤ o ∧ o ≤ 2) ∧ (0 ≤ into ∧ into ≤ 2)) ∧ t2 = 0 ∧ pm v.toNat = pm o.toNat ∧ ((LGN ≤ aB (le v.toNat * le o.toNat + pm v.toNat * (ri v.toNat * ri o.toNat)) ∨ LGN ≤ aB (le v.toNat * ri o.toNat + ri v.toNat * le o.toNat)) ∧ ans = -9 ∧ pm' = pm ∧ le' = le ∧ ri' = ri ∧ cm' = iup cm 3 (cm 3 + 1) ∨ ¬ (LGN ≤ aB (le v.toNat * le o.toNat + pm v.toNat * (ri v.toNat * ri o.toNat)) ∨ LGN ≤ aB (le v.toNat * ri o.toNat + ri v.toNat * le o.toNat)) ∧ ans = bI (¬ (pm into.toNat = (pm v.toNat) ∧ le into.toNat = (le v.toNat * le o.toNat + pm v.toNat * (ri v.toNat * ri o.toNat)) ∧ ri into.toNat = (le v.toNat * ri o.toNat + ri v.toNat * le o.toNat))) ∧ pm' = iup pm into.toNat (pm v.toNat) ∧ le' = iup le into.toNat (le v.toNat * le o.toNat + pm v.toNat * (ri v.toNat * ri o.toNat)) ∧ ri' = iup ri into.toNat (le v.toNat * ri o.toNat + ri v.toNat * le o.toNat) ∧ cm' = iup cm 1 (cm 1 + 1))) : PX pm le ri cm t2 pm' le' ri' cm' t := by
  rcases h with ⟨-, h, -, a, b, c, d⟩ | ⟨-, h, -, -, a, b, c, d⟩ | ⟨g, h, -, ⟨-, -, a, b, c, d⟩ | ⟨q, -, a, b, c, d⟩⟩
  · exact px_no hP hc (by omega) a b c d
  · exact px_can hP hc h a b c d
  · exact px_can hP hc h a b c d
  · exact px_up hP hc h (hP v.toNat (by omega)).1 (fun z => q (Or.inl z)) (fun z => q (Or.inr z)) a b c d
theorem bp_power {pm le ri cm : Nat → Int} {t : Nat} (hP : HPp pm le ri) (hc : ∀ i, i < 5 → 0 ≤ cm i ∧ cm i ≤ (t : Int)) {t2 ans : Int} {pm' le' ri' cm' : Nat → Int} {v e : Int}  (h : ¬ (0 ≤ v ∧ v ≤ 2) ∧ t2 = 1 ∧ ans = 0 ∧ pm' = pm ∧ le' = le ∧ ri' = ri ∧ cm' = cm ∨ (0 ≤ v ∧ v ≤ 2) ∧ ¬ (0 ≤ e ∧ e ≤ 5) ∧ t2 = 2 ∧ ans = 0 ∧ pm' = pm ∧ le' = le ∧ ri' = ri ∧ cm' = cm ∨ (0 ≤ v ∧ v ≤ 2) ∧ (0 ≤ e ∧ e ≤ 5) ∧ t2 = 0 ∧ ((LGN ≤ aB (pw2 (pm v.toNat) (le v.toNat) (ri v.toNat) e.toNat).1 ∨ LGN ≤ aB (pw2 (pm v.toNat) (le v.toNat) (ri v.toNat) e.toNat).2) ∧ ans = -9 ∧ pm' = pm ∧ le' = le ∧ ri' = ri ∧ cm' = iup cm 3 (cm 3 + 1) ∨ ¬ (LGN ≤ aB (pw2 (pm v.toNat) (le v.toNat) (ri v.toNat) e.toNat).1 ∨ LGN ≤ aB (pw2 (pm v.toNat) (le v.toNat) (ri v.toNat) e.toNat).2) ∧ ans = bI (¬ (pm v.toNat = (pm v.toNat) ∧ le v.toNat = (pw2 (pm v.toNat) (le v.toNat) (ri v.toNat) e.toNat).1 ∧ ri v.toNat = (pw2 (pm v.toNat) (le v.toNat) (ri v.toNat) e.toNat).2)) ∧ pm' = iup pm v.toNat (pm v.toNat) ∧ le' = iup le v.toNat (pw2 (pm v.toNat) (le v.toNat) (ri v.toNat) e.toNat).1 ∧ ri' = iup ri v.toNat (pw2 (pm v.toNat) (le v.toNat) (ri v.toNat) e.toNat).2 ∧ cm' = iup cm 1 (cm 1 + 1))) : PX pm le ri cm t2 pm' le' ri' cm' t := by
  rcases h with ⟨-, h, -, a, b, c, d⟩ | ⟨-, -, h, -, a, b, c, d⟩ | ⟨g, -, h, ⟨-, -, a, b, c, d⟩ | ⟨q, -, a, b, c, d⟩⟩
  · exact px_no hP hc (by omega) a b c d
  · exact px_no hP hc (by omega) a b c d
  · exact px_can hP hc h a b c d
  · exact px_up hP hc h (hP v.toNat (by omega)).1 (fun z => q (Or.inl z)) (fun z => q (Or.inr z)) a b c d
theorem bp_divideBy {pm le ri cm : Nat → Int} {t : Nat} (hP : HPp pm le ri) (hc : ∀ i, i < 5 → 0 ≤ cm i ∧ cm i ≤ (t : Int)) {t2 ans : Int} {pm' le' ri' cm' : Nat → Int} {v d : Int}  (h : ¬ (0 ≤ v ∧ v ≤ 2) ∧ t2 = 1 ∧ ans = 0 ∧ pm' = pm ∧ le' = le ∧ ri' = ri ∧ cm' = cm ∨ (0 ≤ v ∧ v ≤ 2) ∧ ¬ (-99 ≤ d ∧ d ≤ 99) ∧ t2 = 2 ∧ ans = 0 ∧ pm' = pm ∧ le' = le ∧ ri' = ri ∧ cm' = cm ∨ (0 ≤ v ∧ v ≤ 2) ∧ (-99 ≤ d ∧ d ≤ 99) ∧ t2 = 0 ∧ ((d = 0 ∨ aB (le v.toNat) % aB d ≠ 0 ∨ aB (ri v.toNat) % aB d ≠ 0) ∧ ans = -9 ∧ pm' = pm ∧ le' = le ∧ ri' = ri ∧ cm' = iup cm 3 (cm 3 + 1) ∨ ¬ (d = 0 ∨ aB (le v.toNat) % aB d ≠ 0 ∨ aB (ri v.toNat) % aB d ≠ 0) ∧ ∃ x y : Int, x * d = le v.toNat ∧ y * d = ri v.toNat ∧ ans = bI (¬ (pm v.toNat = (pm v.toNat) ∧ le v.toNat = x ∧ ri v.toNat = y)) ∧ pm' = iup pm v.toNat (pm v.toNat) ∧ le' = iup le v.toNat x ∧ ri' = iup ri v.toNat y ∧ cm' = iup cm 1 (cm 1 + 1))) : PX pm le ri cm t2 pm' le' ri' cm' t := by
  rcases h with ⟨-, h, -, a, b, c, d⟩ | ⟨-, -, h, -, a, b, c, d⟩ | ⟨g, -, h, ⟨-, -, a, b, c, d⟩ | ⟨q, x, y, hx, hy, -, a, b, c, d⟩⟩
  · exact px_no hP hc (by omega) a b c d
  · exact px_no hP hc (by omega) a b c d
  · exact px_can hP hc h a b c d
  · obtain ⟨h1, h2, h3⟩ := hP v.toNat (by omega)
    have hd : ¬ (_ : Int) = 0 := fun z => q (Or.inl z)
    exact px_up hP hc h h1 (aB_dv hx hd h2) (aB_dv hy hd h3) a b c d
theorem bp_pairCopy {pm le ri cm : Nat → Int} {t : Nat} (hP : HPp pm le ri) (hc : ∀ i, i < 5 → 0 ≤ cm i ∧ cm i ≤ (t : Int)) {t2 ans : Int} {pm' le' ri' cm' : Nat → Int} {v into : Int}  (h : ¬ ((0 ≤ v ∧ v ≤ 2) ∧ (0 ≤ into ∧ into ≤ 2)) ∧ t2 = 1 ∧ ans = 0 ∧ pm' = pm ∧ le' = le ∧ ri' = ri ∧ cm' = cm ∨ ((0 ≤ v ∧ v ≤ 2) ∧ (0 ≤ into ∧ into ≤ 2)) ∧ t2 = 0 ∧ ans = bI (¬ (pm into.toNat = (pm v.toNat) ∧ le into.toNat = (le v.toNat) ∧ ri into.toNat = (ri v.toNat))) ∧ pm' = iup pm into.toNat (pm v.toNat) ∧ le' = iup le into.toNat (le v.toNat) ∧ ri' = iup ri into.toNat (ri v.toNat) ∧ cm' = iup cm 1 (cm 1 + 1)) : PX pm le ri cm t2 pm' le' ri' cm' t := by
  rcases h with ⟨-, h, -, a, b, c, d⟩ | ⟨g, h, -, a, b, c, d⟩
  · exact px_no hP hc (by omega) a b c d
  · obtain ⟨h1, h2, h3⟩ := hP v.toNat (by omega)
    exact px_up hP hc h h1 h2 h3 a b c d
