abbrev MA.setL (A : MA) (R : Nat → Option Nat) : MA := (A.1, A.2.1, A.2.2.1, A.2.2.2.1, A.2.2.2.2.1, A.2.2.2.2.2.1, A.2.2.2.2.2.2.1, R, A.2.2.2.2.2.2.2.2.1, A.2.2.2.2.2.2.2.2.2)
abbrev MA.setR (A : MA) (R : Nat → Option Nat) : MA := (A.1, A.2.1, A.2.2.1, A.2.2.2.1, A.2.2.2.2.1, A.2.2.2.2.2.1, A.2.2.2.2.2.2.1, A.2.2.2.2.2.2.2.1, R, A.2.2.2.2.2.2.2.2.2)
section
variable {τ : Nat → Nat} {w w' : Wd} {m : Nat} {A : MA} {th : Int} {ba st pb le ri : Nat → Int} {sp : Nat → Nat → Int} {ct : Nat → Int}
theorem MSx.setL (h : MSx τ w m A th ba st pb le ri sp ct) {i q : Nat} {z : Int} (hq : τ q = 9) (hf : RowAt w q z 4) : MSx τ (wset w A.2.2.2.1 (true, eR 2 3 (rup A.2.2.2.2.2.2.2.1 i (some q)))) m (A.setL (rup A.2.2.2.2.2.2.2.1 i (some q))) th ba st pb (iup le i z) ri sp ct := by
  have t := h.tg
  have k : ∀ a, τ a ≠ 5 → (wset w A.2.2.2.1 (true, eR 2 3 (rup A.2.2.2.2.2.2.2.1 i (some q)))).2 a = w.2 a := fun a ha => wset_n (fun e => ha (by rw [e]; omega))
  refine ⟨(k m (by omega)).trans h.o, t, ⟨(k A.1 (by omega)).trans h.b, (k A.2.1 (by omega)).trans h.s, (k A.2.2.1 (by omega)).trans h.p, (k A.2.2.2.2.2.2.1 (by omega)).trans h.c⟩, ⟨wset_s, (k A.2.2.2.2.1 (by omega)).trans h.r, (k A.2.2.2.2.2.1 (by omega)).trans h.z⟩, fun j hj => ?_, fun j hj => ?_, fun j hj => ?_⟩
  · by_cases e : j = i
    · subst e
      exact ⟨q, rup_s, hq, by rw [iup_s]; exact hf.keep (k q (by omega))⟩
    · obtain ⟨q', a, b, c⟩ := h.L hj
      exact ⟨q', (rup_n e).trans a, b, by rw [iup_n e]; exact c.keep (k q' (by omega))⟩
  · obtain ⟨q, a, b, c⟩ := h.R hj
    exact ⟨q, a, b, c.keep (k q (by omega))⟩
  · obtain ⟨q, a, b, c⟩ := h.Z hj
    exact ⟨q, a, b, (k q (by omega)).trans c⟩
theorem MSx.setR (h : MSx τ w m A th ba st pb le ri sp ct) {i q : Nat} {z : Int} (hq : τ q = 9) (hf : RowAt w q z 4) : MSx τ (wset w A.2.2.2.2.1 (true, eR 2 3 (rup A.2.2.2.2.2.2.2.2.1 i (some q)))) m (A.setR (rup A.2.2.2.2.2.2.2.2.1 i (some q))) th ba st pb le (iup ri i z) sp ct := by
  have t := h.tg
  have k : ∀ a, τ a ≠ 6 → (wset w A.2.2.2.2.1 (true, eR 2 3 (rup A.2.2.2.2.2.2.2.2.1 i (some q)))).2 a = w.2 a := fun a ha => wset_n (fun e => ha (by rw [e]; omega))
  refine ⟨(k m (by omega)).trans h.o, t, ⟨(k A.1 (by omega)).trans h.b, (k A.2.1 (by omega)).trans h.s, (k A.2.2.1 (by omega)).trans h.p, (k A.2.2.2.2.2.2.1 (by omega)).trans h.c⟩, ⟨(k A.2.2.2.1 (by omega)).trans h.l, wset_s, (k A.2.2.2.2.2.1 (by omega)).trans h.z⟩, fun j hj => ?_, fun j hj => ?_, fun j hj => ?_⟩
  · obtain ⟨q, a, b, c⟩ := h.L hj
    exact ⟨q, a, b, c.keep (k q (by omega))⟩
  · by_cases e : j = i
    · subst e
      exact ⟨q, rup_s, hq, by rw [iup_s]; exact hf.keep (k q (by omega))⟩
    · obtain ⟨q', a, b, c⟩ := h.R hj
      exact ⟨q', (rup_n e).trans a, b, by rw [iup_n e]; exact c.keep (k q' (by omega))⟩
  · obtain ⟨q, a, b, c⟩ := h.Z hj
    exact ⟨q, a, b, (k q (by omega)).trans c⟩
end
theorem BN.abs {f : Nat → Int} {n : Nat} {z : Int} (h : BN f n z) : mg f n = aB z := by
  have hs := h.s
  have hm := h.m
  unfold aB
  rcases hs with q | q | q
  · rw [if_pos q.2.1, hm, q.1]; omega
  · rw [if_neg (by omega), q.2.1]
    rw [q.2.2]; rfl
  · rw [if_neg (by omega), hm, q.1]; omega
theorem B30_3 : B30 ^ 3 = 1237940039285380274899124224 := by
  show (1073741824 : Int) ^ 3 = _; simp
abbrev LGN : Int := 1208925819614629174706176
theorem BN.short {f : Nat → Int} {n : Nat} {z : Int} (h : BN f n z) (hz : ¬ LGN ≤ aB z) : n ≤ 4 := by
  refine h.cap (k := 3) ?_
  rw [B30_3]
  rw [show LGN = (1208925819614629174706176 : Int) from rfl] at hz
  unfold aB at hz
  split at hz <;> omega
theorem RowAt.short {w : Wd} {q cap : Nat} {z : Int} (h : RowAt w q z cap) (hz : ¬ LGN ≤ aB z) : RowAt w q z 4 := by
  obtain ⟨n, f, a, b, c⟩ := h
  exact ⟨n, f, a, b, b.short hz⟩
/-- new rows are the model's -/
def rtag (τ : Nat → Nat) (n : Nat) : Nat → Nat := fun a => if a < n then τ a else 9
theorem rtag_lo {τ : Nat → Nat} {n a : Nat} (h : a < n) : rtag τ n a = τ a := if_pos h
theorem rtag_hi {τ : Nat → Nat} {n a : Nat} (h : n ≤ a) : rtag τ n a = 9 := if_neg (by omega)
set_option maxHeartbeats 4000000 in
set_option maxRecDepth 100000 in
theorem c_X8_its (l : Launch) {E : GE} {w : Wd} {τ : Nat → Nat} {m : Nat} {A : MA} {th : Int} {ba st pb le ri : Nat → Int} {sp : Nat → Nat → Int} {ct : Nat → Int} (hM : MSx τ w m A th ba st pb le ri sp ct) {i : Nat} {y : Int} (hi : i < 3) (hy : y = 0 ∨ y = 1) : Sp E l yX8_its cX8_its 3 (some (.array .int)) 0 (0) (0) [.ref m, iI (i : Int), iI y] w (fun r w' => (∃ q, r = some (.ref q) ∧ τ q = 9 ∧ RowAt w q (if y = 1 then le i else ri i) 4) ∧ w' = w) := by
  refine sp_intro [some (.ref m), some (iI (i : Int)), some (iI y)] rfl (Nat.le_of_ble_eq_true rfl) pn_X8 ?_
  intro X C hRm hl hnm hQ
  obtain ⟨hRf, hRl, hRc, hRs⟩ := hRm
  refine g_wf (fun hwf => ?_)
  obtain ⟨q1, hq1, tq1, r1⟩ := hM.L hi
  obtain ⟨q2, hq2, tq2, r2⟩ := hM.R hi
  refine g_iload_n C dX8_its_0 rfl ?_
  refine g_if_eq (tgt := 13) C dX8_its_1 (by decide) (by omega) (fun h1 => ?_) (fun h1 => ?_)
  · refine g_aload_n C dX8_its_13 rfl ?_
    refine g_get (ci := 10) C rfl inTX8 5 (by decide) fl_RX8_28 rfl hM.o rfl dX8_its_14 ?_
    refine g_iload_n C dX8_its_17 rfl ?_
    refine g_aaloadN (i) C rfl rfl hM.r (by omega) (by omega) hq2 dX8_its_18 ?_
    exact g_areturn C (Or.inr ⟨_, rfl⟩) hQ (Or.inr ⟨_, rfl⟩) dX8_its_19 (by omega) (by omega) ⟨by first | exact ⟨q1, rfl, tq1, by rw [if_pos (by omega)]; exact r1⟩ | exact ⟨q2, rfl, tq2, by rw [if_neg (by omega)]; exact r2⟩, rfl⟩
  · refine g_aload_n C dX8_its_4 rfl ?_
    refine g_get (ci := 10) C rfl inTX8 4 (by decide) fl_RX8_24 rfl hM.o rfl dX8_its_5 ?_
    refine g_iload_n C dX8_its_8 rfl ?_
    refine g_aaloadN (i) C rfl rfl hM.l (by omega) (by omega) hq1 dX8_its_9 ?_
    refine g_goto (tgt := 19) C dX8_its_10 (by decide) ?_
    exact g_areturn C (Or.inr ⟨_, rfl⟩) hQ (Or.inr ⟨_, rfl⟩) dX8_its_19 (by omega) (by omega) ⟨by first | exact ⟨q1, rfl, tq1, by rw [if_pos (by omega)]; exact r1⟩ | exact ⟨q2, rfl, tq2, by rw [if_neg (by omega)]; exact r2⟩, rfl⟩
set_option maxHeartbeats 4000000 in
set_option maxRecDepth 100000 in
theorem c_X8_areSame (l : Launch) {E : GE} {w : Wd} {u v : Int} {a1 a2 a3 a4 : Nat} {z1 z2 z3 z4 : Int} (r1 : RowAt w a1 z1 9) (r2 : RowAt w a2 z2 9) (r3 : RowAt w a3 z3 9) (r4 : RowAt w a4 z4 9) (hb1 : -2147483648 ≤ u ∧ u < 2147483648) (hb2 : -2147483648 ≤ v ∧ v < 2147483648) : Sp E l yX8_areSame cX8_areSame 6 (some .boolean) 2 (0) (0) [iI u, .ref a1, .ref a2, iI v, .ref a3, .ref a4] w (fun r w' => r = some (iI (bI (u = v ∧ z1 = z3 ∧ z2 = z4))) ∧ w' = w) := by
  refine sp_intro [some (iI u), some (.ref a1), some (.ref a2), some (iI v), some (.ref a3), some (.ref a4)] rfl (Nat.le_of_ble_eq_true rfl) pn_X8 ?_
  intro X C hRm hl hnm hQ
  obtain ⟨hRf, hRl, hRc, hRs⟩ := hRm
  refine g_wf (fun hwf => ?_)
  obtain ⟨n1, f1, e1, b1, c1⟩ := r1
  obtain ⟨n2, f2, e2, b2, c2⟩ := r2
  obtain ⟨n3, f3, e3, b3, c3⟩ := r3
  obtain ⟨n4, f4, e4, b4, c4⟩ := r4
  refine g_iload_n C dX8_areSame_0 rfl ?_
  refine g_iload_n C dX8_areSame_1 rfl ?_
  refine g_icmp_ne (tgt := 27) C dX8_areSame_2 (by decide) hb1 hb2 (fun h2 => ?_) (fun h2 => ?_)
  · refine g_iconst C dX8_areSame_27 ?_
    exact g_zreturn C hQ dX8_areSame_28 rfl (Nat.le_refl _) (Nat.le_refl _) ⟨by first | rw [bI_t (by omega)] | rw [bI_f (by omega)], rfl⟩
  · refine g_aload_n C dX8_areSame_5 rfl ?_
    refine g_aload C dX8_areSame_6 rfl ?_
    refine g_callS C (c_X8_side _ e1 e3 b1 b3 (by omega) (by omega)) ml_RX8_199 sm_yX8_side in_RX8 co_yX8_side hd_X8_side rfl ⟨by omega, by omega⟩ rfl (Nat.le_of_ble_eq_true rfl) ⟨by omega, by omega⟩ dX8_areSame_8 (fun v8 w8 hp8 => ?_)
    obtain ⟨⟨d8, rfl, hd8⟩, hw8⟩ := hp8
    subst w8
    refine g_if_ne (tgt := 27) C dX8_areSame_11 (by decide) (by omega) (fun h11 => ?_) (fun h11 => ?_)
    · refine g_iconst C dX8_areSame_27 ?_
      exact g_zreturn C hQ dX8_areSame_28 rfl (Nat.le_refl _) (Nat.le_refl _) ⟨by first | rw [bI_t (by omega)] | rw [bI_f (by omega)], rfl⟩
    · refine g_aload_n C dX8_areSame_14 rfl ?_
      refine g_aload C dX8_areSame_15 rfl ?_
      refine g_callS C (c_X8_side _ e2 e4 b2 b4 (by omega) (by omega)) ml_RX8_199 sm_yX8_side in_RX8 co_yX8_side hd_X8_side rfl ⟨by omega, by omega⟩ rfl (Nat.le_of_ble_eq_true rfl) ⟨by omega, by omega⟩ dX8_areSame_17 (fun v17 w17 hp17 => ?_)
      obtain ⟨⟨d17, rfl, hd17⟩, hw17⟩ := hp17
      subst w17
      refine g_if_ne (tgt := 27) C dX8_areSame_20 (by decide) (by omega) (fun h20 => ?_) (fun h20 => ?_)
      · refine g_iconst C dX8_areSame_27 ?_
        exact g_zreturn C hQ dX8_areSame_28 rfl (Nat.le_refl _) (Nat.le_refl _) ⟨by first | rw [bI_t (by omega)] | rw [bI_f (by omega)], rfl⟩
      · refine g_iconst C dX8_areSame_23 ?_
        refine g_goto (tgt := 28) C dX8_areSame_24 (by decide) ?_
        exact g_zreturn C hQ dX8_areSame_28 rfl (Nat.le_refl _) (Nat.le_refl _) ⟨by first | rw [bI_t (by omega)] | rw [bI_f (by omega)], rfl⟩
theorem RowAt.le {w : Wd} {q c c' : Nat} {z : Int} (h : RowAt w q z c) (hc : c ≤ c') : RowAt w q z c' := by
  obtain ⟨n, f, a, b, d⟩ := h
  exact ⟨n, f, a, b, by omega⟩
set_option maxHeartbeats 4000000 in
set_option maxRecDepth 100000 in
theorem c_X8_become (l : Launch) {E : GE} {w : Wd} {τ : Nat → Nat} {m : Nat} {A : MA} {th : Int} {ba st pb le ri : Nat → Int} {sp : Nat → Nat → Int} {ct : Nat → Int} (hM : MSx τ w m A th ba st pb le ri sp ct) {i a1 a2 : Nat} {bz z1 z2 : Int} (hi : i < 3) (hp1 : -2147483648 ≤ pb i ∧ pb i < 2147483648) (hp2 : -2147483648 ≤ bz ∧ bz < 2147483648) (t1 : τ a1 = 9) (t2 : τ a2 = 9) (r1 : RowAt w a1 z1 4) (r2 : RowAt w a2 z2 4) : Sp E l yX8_become cX8_become 6 (some .int) 3 (0) (0) [.ref m, iI (i : Int), iI bz, .ref a1, .ref a2] w (fun r w' => r = some (iI (bI (¬ (pb i = bz ∧ le i = z1 ∧ ri i = z2)))) ∧ MSx τ w' m ((A.setL (rup A.2.2.2.2.2.2.2.1 i (some a1))).setR (rup A.2.2.2.2.2.2.2.2.1 i (some a2))) (th) (ba) (st) (iup pb i bz) (iup le i z1) (iup ri i z2) (sp) (iup ct 1 (ct 1 + 1)) ∧ Keep τ w w') := by
  refine sp_intro [some (.ref m), some (iI (i : Int)), some (iI bz), some (.ref a1), some (.ref a2), none] rfl (Nat.le_of_ble_eq_true rfl) pn_X8 ?_
  intro X C hRm hl hnm hQ
  obtain ⟨hRf, hRl, hRc, hRs⟩ := hRm
  refine g_wf (fun hwf => ?_)
  obtain ⟨q1, hq1, tq1, s1⟩ := hM.L hi
  obtain ⟨q2, hq2, tq2, s2⟩ := hM.R hi
  obtain ⟨x1, g1, e1, -, -⟩ := id r1
  obtain ⟨x2, g2, e2, -, -⟩ := id r2
  have tt := hM.tg
  refine g_aload_n C dX8_become_0 rfl ?_
  refine g_get (ci := 10) C rfl inTX8 3 (by decide) fl_RX8_16 rfl hM.o rfl dX8_become_1 ?_
  refine g_iload_n C dX8_become_4 rfl ?_
  refine g_ialoadN (i) C hM.p (by omega) (by omega) dX8_become_5 ?_
  refine g_aload_n C dX8_become_6 rfl ?_
  refine g_get (ci := 10) C rfl inTX8 4 (by decide) fl_RX8_24 rfl hM.o rfl dX8_become_7 ?_
  refine g_iload_n C dX8_become_10 rfl ?_
  refine g_aaloadN (i) C rfl rfl hM.l (by omega) (by omega) hq1 dX8_become_11 ?_
  refine g_aload_n C dX8_become_12 rfl ?_
  refine g_get (ci := 10) C rfl inTX8 5 (by decide) fl_RX8_28 rfl hM.o rfl dX8_become_13 ?_
  refine g_iload_n C dX8_become_16 rfl ?_
  refine g_aaloadN (i) C rfl rfl hM.r (by omega) (by omega) hq2 dX8_become_17 ?_
  refine g_iload_n C dX8_become_18 rfl ?_
  refine g_aload_n C dX8_become_19 rfl ?_
  refine g_aload C dX8_become_20 rfl ?_
  refine g_callS C (c_X8_areSame _ (s1.le (by omega)) (s2.le (by omega)) (r1.le (by omega)) (r2.le (by omega)) hp1 hp2) ml_RX8_228 sm_yX8_areSame in_RX8 co_yX8_areSame hd_X8_areSame rfl ⟨by omega, by omega⟩ rfl (Nat.le_of_ble_eq_true rfl) ⟨by omega, by omega⟩ dX8_become_22 (fun v22 w22 hp22 => ?_)
  obtain ⟨rfl, hw22⟩ := hp22
  subst w22
  refine g_istore C dX8_become_25 (by decide) rfl ?_
  refine g_aload_n C dX8_become_27 rfl ?_
  refine g_get (ci := 10) C rfl inTX8 3 (by decide) fl_RX8_16 rfl hM.o rfl dX8_become_28 ?_
  refine g_iload_n C dX8_become_31 rfl ?_
  refine g_iload_n C dX8_become_32 rfl ?_
  refine g_iastoreN (i) C hM.p (by omega) (by omega) dX8_become_33 ?_
  refine g_aload_n C dX8_become_34 rfl ?_
  refine g_get (ci := 10) C rfl inTX8 4 (by decide) fl_RX8_24 rfl (hM.setP _).o rfl dX8_become_35 ?_
  refine g_iload_n C dX8_become_38 rfl ?_
  refine g_aload_n C dX8_become_39 rfl ?_
  refine g_aastoreI C i (hM.setP _).l (b := true) (m := x1) (g := g1) (by rw [wset_n (fun e => by rw [e] at t1; omega)]; exact e1) (by omega) (by omega) dX8_become_40 ?_
  refine g_aload_n C dX8_become_41 rfl ?_
  refine g_get (ci := 10) C rfl inTX8 5 (by decide) fl_RX8_28 rfl ((hM.setP (iup pb i bz)).setL (i := i) t1 (r1.keep (wset_n (fun e => by rw [e] at t1; omega)))).o rfl dX8_become_42 ?_
  refine g_iload_n C dX8_become_45 rfl ?_
  refine g_aload C dX8_become_46 rfl ?_
  refine g_aastoreI C i ((hM.setP (iup pb i bz)).setL (i := i) t1 (r1.keep (wset_n (fun e => by rw [e] at t1; omega)))).r (b := true) (m := x2) (g := g2) (by rw [wset_n (fun e => by rw [e] at t2; omega), wset_n (fun e => by rw [e] at t2; omega)]; exact e2) (by omega) (by omega) dX8_become_48 ?_
  have hM5 := (((hM.setP (iup pb i bz)).setL (i := i) t1 (r1.keep (wset_n (fun e => by rw [e] at t1; omega)))).setR (i := i) t2 (r2.keep (by rw [wset_n (fun e => by rw [e] at t2; omega), wset_n (fun e => by rw [e] at t2; omega)])))
  refine g_aload_n C dX8_become_49 rfl ?_
  refine g_iconst C dX8_become_50 ?_
  refine g_iload C dX8_become_51 rfl ?_
  have J61 : ∀ x : Int, x = bI (¬ (pb i = bz ∧ le i = z1 ∧ ri i = z2)) → G E X 6 61 [some (.ref m), some (iI (i : Int)), some (iI bz), some (.ref a1), some (.ref a2), some (iI (bI (pb i = bz ∧ le i = z1 ∧ ri i = z2)))] [iI x, iI 1, .ref m] (wset (wset (wset w A.2.2.1 (true, eI 3 (iup pb i bz))) A.2.2.2.1 (true, eR 2 3 (rup A.2.2.2.2.2.2.2.1 i (some a1)))) A.2.2.2.2.1 (true, eR 2 3 (rup A.2.2.2.2.2.2.2.2.1 i (some a2)))) 0 0 := by
    intro x hx
    refine g_callV C (c_X8_done _ hM5 (kd := 1) (to := x) (by omega)) (ci := 10) rfl hM5.o rfl ml_RX8_155 im_yX8_done se_RX8_yX8_done in_RX8 co_yX8_done hd_X8_done rfl ⟨by omega, by omega⟩ rfl (Nat.le_of_ble_eq_true rfl) ⟨by omega, by omega⟩ dX8_become_61 (fun v61 w61 hp61 => ?_)
    obtain ⟨rfl, hM9, hK9⟩ := hp61
    exact g_ireturn C hQ dX8_become_64 (Nat.le_refl _) (Nat.le_refl _) ⟨by rw [hx], hM9, ((((Keep.set _ (show τ A.2.2.1 < 100 by omega)).tr (Keep.set _ (show τ A.2.2.2.1 < 100 by omega))).tr (Keep.set _ (show τ A.2.2.2.2.1 < 100 by omega))).tr hK9)⟩
  refine g_if_eq (tgt := 60) C dX8_become_53 (by decide) (bI_r _) (fun h53 => ?_) (fun h53 => ?_)
  · refine g_iconst C dX8_become_60 ?_
    exact J61 _ (by first | rw [bI_t (bI_0 h53)] | rw [bI_f (fun q => q (bI_1 h53))])
  · refine g_iconst C dX8_become_56 ?_
    refine g_goto (tgt := 61) C dX8_become_57 (by decide) ?_
    exact J61 _ (by first | rw [bI_t (bI_0 h53)] | rw [bI_f (fun q => q (bI_1 h53))])
