theorem pw2_le {b P Q : Int} (hb : 0 < b) (g : sol b P Q) {j : Nat} : ∀ k : Nat, (pw2 b P Q j).1 ≤ (pw2 b P Q (j + k)).1 ∧ (pw2 b P Q j).2 ≤ (pw2 b P Q (j + k)).2
  | 0 => ⟨Int.le_refl _, Int.le_refl _⟩
  | k + 1 => by
    obtain ⟨a1, a2⟩ := pw2_le hb g (j := j) k
    obtain ⟨m1, m2⟩ := pw2_mono hb g (j + k)
    obtain ⟨s1, s2, -⟩ := pw2_sol hb g (j + k)
    have := Int.mul_le_mul_of_nonneg_left (show (1 : Int) ≤ P by have := g.1; omega) (Int.le_of_lt s1)
    exact ⟨by show _ ≤ (pw2 b P Q (j + k + 1)).1; omega, by show _ ≤ (pw2 b P Q (j + k + 1)).2; omega⟩
theorem irr {b : Int} (hb : GB b) : ∀ (n : Nat) (x y : Int), aB y < n → x * x - b * (y * y) = 0 → x = 0 ∧ y = 0
  | 0, x, y, hn, h => by have : 0 ≤ aB y := by { unfold aB; split <;> omega }; omega
  | n + 1, x, y, hn, h => by
    by_cases hy : y = 0
    · subst hy
      have e : x * x = 0 := by grind
      rcases Int.mul_eq_zero.mp e with c | c <;> exact ⟨c, rfl⟩
    · exfalso
      obtain ⟨r, hr⟩ := RT_ex hb
      have hb1 := hb.1
      have hr1 := RT_le hb hr
      have ax : 0 ≤ aB x := by unfold aB; split <;> omega
      have ay : 0 < aB y := by unfold aB; split <;> omega
      have hs : aB x * aB x = b * (aB y * aB y) := by rw [aB_sq, aB_sq]; omega
      have yy : 0 < aB y * aB y := Int.mul_pos ay ay
      have hlo : r * aB y < aB x := by
        refine sq_lt2 ax ?_
        have e : (r * aB y) * (r * aB y) = (r * r) * (aB y * aB y) := by grind
        have := hr.2.1
        have hne := hb.2.2 r
        have := Int.mul_le_mul_of_nonneg_right (show r * r + 1 ≤ b by omega) (Int.le_of_lt yy)
        rw [Int.add_mul] at this
        omega
      have hhi : aB x < (r + 1) * aB y := by
        refine sq_lt2 (Int.mul_nonneg (by omega) (by omega)) ?_
        have e : ((r + 1) * aB y) * ((r + 1) * aB y) = ((r + 1) * (r + 1)) * (aB y * aB y) := by grind
        have := Int.mul_le_mul_of_nonneg_right (show b + 1 ≤ (r + 1) * (r + 1) by have := hr.2.2; omega) (Int.le_of_lt yy)
        rw [Int.add_mul] at this
        omega
      have e1 : (r + 1) * aB y = r * aB y + aB y := by grind
      have hz := irr hb n (b * aB y - r * aB x) (aB x - r * aB y) (by unfold aB at *; split <;> omega) (by grind)
      omega
theorem nrm0 {b x y : Int} (hb : GB b) : x * x - b * (y * y) = 0 ↔ x = 0 ∧ y = 0 := by
  constructor
  · intro h
    exact irr hb ((aB y).toNat + 1) x y (by have : 0 ≤ aB y := by { unfold aB; split <;> omega }; omega) h
  · rintro ⟨rfl, rfl⟩
    simp
theorem aB_if (x : Int) : (if 0 ≤ x then x else 0 - x) = aB x := by unfold aB; split <;> split <;> omega
set_option maxHeartbeats 4000000 in
set_option maxRecDepth 100000 in
theorem c_X8_rank (l : Launch) {E : GE} {w : Wd} {v : Int} (h_v : -2147483648 ≤ v ∧ v < 2147483648) {τ : Nat → Nat} {m : Nat} {A : MA} {th : Int} {ba st pb le ri : Nat → Int} {sp : Nat → Nat → Int} {ct : Nat → Int} (hM : MSx τ w m A th ba st pb le ri sp ct) (hP : HPp pb le ri) : Sp E l yX8_rank cX8_rank 6 (some .int) 5 (1410) (11700) [.ref m, iI v] w (fun r' w' => ∃ (t ans : Int), r' = some (iI ans) ∧ MSx τ w' m A (t) (ba) (st) (pb) (le) (ri) (sp) (ct) ∧ Keep τ w w' ∧ (¬ (0 ≤ v ∧ v ≤ 2) ∧ t = 1 ∧ ans = 0 ∨ (0 ≤ v ∧ v ≤ 2) ∧ t = 0 ∧ (ans = -1 ∧ ¬ le v.toNat * le v.toNat - pb v.toNat * (ri v.toNat * ri v.toNat) = 1 ∨ le v.toNat * le v.toNat - pb v.toNat * (ri v.toNat * ri v.toNat) = 1 ∧ ∃ (r : Int) (j : Nat), RT (pb v.toNat) r ∧ ans = j ∧ pw2 (pb v.toNat) (leaP (pb v.toNat) r) (leaQ (pb v.toNat) r) j = (aB (le v.toNat), aB (ri v.toNat))))) := by
  refine sp_intro [some (.ref m), some (iI v), none, none, none, none] rfl (Nat.le_of_ble_eq_true rfl) pn_X8 ?_
  intro X C hRm hl hnm hQ
  obtain ⟨hRf, hRl, hRc, hRs⟩ := hRm
  refine g_wf (fun hwf => ?_)
  refine g_aload_n C dX8_rank_0 rfl ?_
  refine g_iload_n C dX8_rank_1 rfl ?_
  refine g_callS C (c_X8_isNo _ (v := v) h_v) ml_RX8_145 sm_yX8_isNo in_RX8 co_yX8_isNo hd_X8_isNo rfl ⟨by omega, by omega⟩ rfl (Nat.le_of_ble_eq_true rfl) ⟨by omega, by omega⟩ dX8_rank_2 (fun v2 w2 hp2 => ?_)
  obtain ⟨rfl, hw2⟩ := hp2
  subst w2
  refine g_iconst C dX8_rank_5 ?_
  refine g_callV C (c_X8_start _ hM (y := bI (¬ (0 ≤ v ∧ v ≤ 2))) (wh := 1) (bI_01 _) (by omega)) (ci := 10) rfl hM.o rfl ml_RX8_149 im_yX8_start se_RX8_yX8_start in_RX8 co_yX8_start hd_X8_start rfl ⟨by omega, by omega⟩ rfl (Nat.le_of_ble_eq_true rfl) ⟨by omega, by omega⟩ dX8_rank_6 (fun v6 w6 hp6 => ?_)
  obtain ⟨t6, rfl, ht6, hM6, hK6⟩ := hp6
  have hy6 : (bI (¬ (0 ≤ v ∧ v ≤ 2))) = 0 ∨ (bI (¬ (0 ≤ v ∧ v ≤ 2))) = 1 := (bI_01 _)
  refine g_if_eq (tgt := 14) C dX8_rank_9 (by decide) (bI_r _) (fun h9 => ?_) (fun h9 => ?_)
  · have hwk : 0 ≤ v ∧ v ≤ 2 := Classical.not_not.mp (bI_0 (by omega))
    obtain ⟨V, rfl⟩ := Int.eq_ofNat_of_zero_le hwk.1
    obtain ⟨g1, gL, gR⟩ := hP V (by omega)
    obtain ⟨r, hr⟩ := RT_ex g1
    have g11 := g1.1
    have g12 := g1.2.1
    obtain ⟨q1, hq1, tq1, r1⟩ := hM6.L (i := V) (by omega)
    obtain ⟨q2, hq2, tq2, r2⟩ := hM6.R (i := V) (by omega)
    obtain ⟨nL, fL, eL, bL, dL⟩ := id r1
    obtain ⟨nR, fR, eR', bR, dR⟩ := id r2
    refine g_aload_n C dX8_rank_14 rfl ?_
    refine g_get (ci := 10) C rfl inTX8 3 (by decide) fl_RX8_16 rfl hM6.o rfl dX8_rank_15 ?_
    refine g_iload_n C dX8_rank_18 rfl ?_
    refine g_ialoadN (V) C hM6.p (by omega) (by omega) dX8_rank_19 ?_
    refine g_istore_n C dX8_rank_20 (by decide) rfl ?_
    refine g_iload_n C dX8_rank_21 rfl ?_
    refine g_aload_n C dX8_rank_22 rfl ?_
    refine g_get (ci := 10) C rfl inTX8 4 (by decide) fl_RX8_24 rfl hM6.o rfl dX8_rank_23 ?_
    refine g_iload_n C dX8_rank_26 rfl ?_
    refine g_aaloadN (V) C rfl rfl hM6.l (by omega) (by omega) hq1 dX8_rank_27 ?_
    refine g_aload_n C dX8_rank_28 rfl ?_
    refine g_get (ci := 10) C rfl inTX8 5 (by decide) fl_RX8_28 rfl hM6.o rfl dX8_rank_29 ?_
    refine g_iload_n C dX8_rank_32 rfl ?_
    refine g_aaloadN (V) C rfl rfl hM6.r (by omega) (by omega) hq2 dX8_rank_33 ?_
    refine g_callS C (c_X8_norm _ (c := 4) eL eR' bL bR dL dR (by omega) (by omega)) ml_RX8_188 sm_yX8_norm in_RX8 co_yX8_norm hd_X8_norm rfl ⟨by omega, by omega⟩ rfl (Nat.le_of_ble_eq_true rfl) ⟨by omega, by omega⟩ dX8_rank_34 (fun v34 w34 hp34 => ?_)
    obtain ⟨q34, m34, g34, rfl, h34, hb34, hm34, x34, hq34⟩ := hp34
    refine g_lconst (z := 1) C dX8_rank_37 (by decide) ?_
    refine g_callS C (c_X8_of _ (v := 1) (by omega)) ml_RX8_20 sm_yX8_of in_RX8 co_yX8_of hd_X8_of rfl ⟨by omega, by omega⟩ rfl (Nat.le_of_ble_eq_true rfl) ⟨by omega, by omega⟩ dX8_rank_38 (fun v38 w38 hp38 => ?_)
    obtain ⟨m38, f38, rfl, e38, b38, c38, s38, x38⟩ := hp38
    have y38 := x34.tr x38
    refine g_callS C (c_X8_side _ (x38.2 _ _ h34) e38 hb34 b38 (by omega) (by omega)) ml_RX8_199 sm_yX8_side in_RX8 co_yX8_side hd_X8_side rfl ⟨by omega, by omega⟩ rfl (Nat.le_of_ble_eq_true rfl) ⟨by omega, by omega⟩ dX8_rank_41 (fun v41 w41 hp41 => ?_)
    obtain ⟨⟨d41, rfl, hd41⟩, hw41⟩ := hp41
    subst hw41
    have hM7 := hM6.ex y38
    refine g_if_eq (tgt := 49) C dX8_rank_44 (by decide) (by omega) (fun h44 => ?_) (fun h44 => ?_)
    · have hn1 : le V * le V - pb V * (ri V * ri V) = 1 := by omega
      obtain ⟨jr, hjr⟩ := rank_ex g1 hr hn1
      obtain ⟨lo1, lo2, lo3, lo4, lo5⟩ := lea_ok g1 hr
      have gs : sol (pb V) (leaP (pb V) r) (leaQ (pb V) r) := ⟨by omega, by omega, lo5⟩
      have hb0 : 0 < pb V := by omega
      have hjr80 : jr < 80 := by
        rcases Nat.lt_or_ge jr 80 with q | q
        · exact q
        · have a1 := pw2_big hb0 gs lo1 jr
          rw [hjr] at a1
          have a2 := p2_le q
          have a3 : LGN = 2 ^ 80 := by unfold LGN; exact p2_80.symm
          dsimp only at a1
          omega
      refine g_wf (fun hwf49 => ?_)
      refine g_iload_n C dX8_rank_49 rfl ?_
      refine g_callS C (c_X8_leastOf _ g1 hr) ml_RX8_225 sm_yX8_leastOf in_RX8 co_yX8_leastOf hd_X8_leastOf rfl ⟨by omega, by omega⟩ rfl (Nat.le_of_ble_eq_true rfl) ⟨by omega, by omega⟩ dX8_rank_50 (fun v50 w50 hp50 => ?_)
      obtain ⟨q50, p50, rfl, hper, hR50, x50, lq50⟩ := hp50
      rw [show (pq (pb V) r 1 r ((if p50 % 2 = 0 then p50 else 2 * p50) - 1)).1 = leaP (pb V) r by unfold leaP; rw [perF_eq hper]; rfl, show (pq (pb V) r 0 1 ((if p50 % 2 = 0 then p50 else 2 * p50) - 1)).1 = leaQ (pb V) r by unfold leaQ; rw [perF_eq hper]; rfl] at hR50
      obtain ⟨R5, z0, z1, z2, z3, hR5, i0, i1, i2, i3, l50, l51, -⟩ := hR50
      have l50 := l50.short (show ¬ LGN ≤ aB (leaP (pb V) r) by unfold LGN aB; rw [if_neg (by omega)]; omega)
      have l51 := l51.short (show ¬ LGN ≤ aB (leaQ (pb V) r) by unfold LGN aB; rw [if_neg (by omega)]; omega)
      refine g_wf (fun hwf7 => ?_)
      have y0 := Ex.push hwf7 (true, eR 2 2 (fun _ => none))
      have hr0 : (wpush w50 (true, eR 2 2 (fun _ => none))).2 w50.1 = some (true, eR 2 2 (fun _ => none)) := wpush_s
      have z0' : (wpush w50 (true, eR 2 2 (fun _ => none))).1 = w50.1 + 1 := rfl
      have hM8 := hM7.ex x50
      refine g_astore_n C dX8_rank_53 (by decide) rfl ?_
      refine g_iconst C dX8_rank_54 ?_
      refine g_anewI C kl_RX8_19 (N := 2) rfl (by omega) (by omega) dX8_rank_55 ?_
      refine g_dup C dX8_rank_58 rfl ?_
      refine g_iconst C dX8_rank_59 ?_
      refine g_lconst (z := 1) C dX8_rank_60 (by decide) ?_
      refine g_callS C (c_X8_of _ (v := 1) (by omega)) ml_RX8_20 sm_yX8_of in_RX8 co_yX8_of hd_X8_of rfl ⟨by omega, by omega⟩ rfl (Nat.le_of_ble_eq_true rfl) ⟨by omega, by omega⟩ dX8_rank_61 (fun v61 w61 hp61 => ?_)
      obtain ⟨m1, f1, rfl, e1, b1, c1, s1, x1⟩ := hp61
      have x01 := y0.tr x1
      refine g_aastoreI C 0 (x1.2 _ _ hr0) e1 rfl (by omega) dX8_rank_64 ?_
      have x46 := x01.setnew hwf7 (Nat.le_refl _) (true, eR 2 2 (rup (fun _ => none) 0 (some ((wpush w50 (true, eR 2 2 (fun _ => none))).1 + 1))))
      have s46 : (wset w61 w50.1 (true, eR 2 2 (rup (fun _ => none) 0 (some ((wpush w50 (true, eR 2 2 (fun _ => none))).1 + 1))))).2 w50.1 = some (true, eR 2 2 (rup (fun _ => none) 0 (some ((wpush w50 (true, eR 2 2 (fun _ => none))).1 + 1)))) := wset_s
      have a46 : RowAt (wset w61 w50.1 (true, eR 2 2 (rup (fun _ => none) 0 (some ((wpush w50 (true, eR 2 2 (fun _ => none))).1 + 1))))) ((wpush w50 (true, eR 2 2 (fun _ => none))).1 + 1) 1 4 := (RowAt.of e1 b1 c1).keep (wset_n (by omega))
      have z46 : (wset w61 w50.1 (true, eR 2 2 (rup (fun _ => none) 0 (some ((wpush w50 (true, eR 2 2 (fun _ => none))).1 + 1))))).1 = w50.1 + 3 := by show w61.1 = _; omega
      generalize (wset w61 w50.1 (true, eR 2 2 (rup (fun _ => none) 0 (some ((wpush w50 (true, eR 2 2 (fun _ => none))).1 + 1))))) = u1 at x46 s46 a46 z46 ⊢
      refine g_dup C dX8_rank_65 rfl ?_
      refine g_iconst C dX8_rank_66 ?_
      refine g_lconst (z := 0) C dX8_rank_67 (by decide) ?_
      refine g_callS C (c_X8_of _ (v := 0) (by omega)) ml_RX8_20 sm_yX8_of in_RX8 co_yX8_of hd_X8_of rfl ⟨by omega, by omega⟩ rfl (Nat.le_of_ble_eq_true rfl) ⟨by omega, by omega⟩ dX8_rank_68 (fun v68 w68 hp68 => ?_)
      obtain ⟨m2, f2, rfl, e2, b2, c2, s2, x2⟩ := hp68
      refine g_aastoreI C 1 (x2.2 _ _ s46) e2 rfl (by omega) dX8_rank_71 ?_
      have x54 := (x46.tr x2).setnew hwf7 (Nat.le_refl _) (true, eR 2 2 (rup (rup (fun _ => none) 0 (some ((wpush w50 (true, eR 2 2 (fun _ => none))).1 + 1))) 1 (some (u1.1 + 1))))
      refine g_astore C dX8_rank_72 (by decide) rfl ?_
      refine g_iconst C dX8_rank_74 ?_
      refine g_istore C dX8_rank_75 (by decide) rfl ?_
      refine g_widen (k' := 44) (n' := 240) (by omega) (by omega) ?_
      refine g_loop (σ := Nat × Wd × Nat) (fun q => q.1 ≤ jr ∧ Ex w50 q.2.1 ∧ ∃ (R : Nat → Option Nat) (a0 a1 : Nat), q.2.1.2 q.2.2 = some (true, eR 2 2 R) ∧ R 0 = some a0 ∧ R 1 = some a1 ∧ RowAt q.2.1 a0 (pw2 (pb V) (leaP (pb V) r) (leaQ (pb V) r) q.1).1 4 ∧ RowAt q.2.1 a1 (pw2 (pb V) (leaP (pb V) r) (leaQ (pb V) r) q.1).2 4) (fun q => G E X 6 77 [some (.ref m), some (iI (V : Int)), some (iI (pb V)), some (.ref q50), some (.ref q.2.2), some (iI (q.1 : Int))] [] q.2.1 (44 + 17 * q.1) (240 + 142 * q.1)) (fun q => jr - q.1) ?_ (0, _, w50.1) ⟨Nat.zero_le _, x54, _, _, _, wset_s, by rw [rup_n (by omega), rup_s], rup_s, (a46.ex x2).keep (wset_n (by omega)), (RowAt.of e2 b2 c2).keep (wset_n (by omega))⟩
      rintro ⟨j, u, q⟩ hq ih
      obtain ⟨hj, xu, R, a0, a1, hR0, k0, k1, l0, l1⟩ := hq
      dsimp only at hj xu hR0 k0 k1 l0 l1 ⊢
      refine g_wf (fun hwfu => ?_)
      have hMu := hM8.ex xu
      have yu := (y38.tr x50).tr xu
      obtain ⟨n0, f0, e0, b0, d0⟩ := id l0
      obtain ⟨n1', f1', e1', b1', d1'⟩ := id l1
      have ps := pw2_sol hb0 gs j
      have pa0 : aB (pw2 (pb V) (leaP (pb V) r) (leaQ (pb V) r) j).1 = (pw2 (pb V) (leaP (pb V) r) (leaQ (pb V) r) j).1 := by have := ps.1; unfold aB; rw [if_neg (by omega)]
      have pa1 : aB (pw2 (pb V) (leaP (pb V) r) (leaQ (pb V) r) j).2 = (pw2 (pb V) (leaP (pb V) r) (leaQ (pb V) r) j).2 := by have := ps.2.1; unfold aB; rw [if_neg (by omega)]
      have J109 : j ≠ jr → G E X 6 109 [some (.ref m), some (iI (V : Int)), some (iI (pb V)), some (.ref q50), some (.ref q), some (iI (j : Int))] [] u (44 + 17 * j) (240 + 142 * j) := by
        intro hne
        refine g_iload_n C dX8_rank_109 rfl ?_
        refine g_aload C dX8_rank_110 rfl ?_
        refine g_iconst C dX8_rank_112 ?_
        refine g_aaloadN (0) C rfl rfl hR0 (by omega) (by omega) k0 dX8_rank_113 ?_
        refine g_aload C dX8_rank_114 rfl ?_
        refine g_iconst C dX8_rank_116 ?_
        refine g_aaloadN (1) C rfl rfl hR0 (by omega) (by omega) k1 dX8_rank_117 ?_
        refine g_aload_n C dX8_rank_118 rfl ?_
        refine g_iconst C dX8_rank_119 ?_
        refine g_aaloadN (0) C rfl rfl (xu.2 _ _ hR5) (by omega) (by omega) i0 dX8_rank_120 ?_
        refine g_aload_n C dX8_rank_121 rfl ?_
        refine g_iconst C dX8_rank_122 ?_
        refine g_aaloadN (1) C rfl rfl (xu.2 _ _ hR5) (by omega) (by omega) i1 dX8_rank_123 ?_
        refine g_callS C (c_X8_product _ (c1 := 4) (by omega) l0 l1 (l50.ex xu) (l51.ex xu) (by omega)) ml_RX8_239 sm_yX8_product in_RX8 co_yX8_product hd_X8_product rfl ⟨by omega, by omega⟩ rfl (Nat.le_of_ble_eq_true rfl) ⟨by omega, by omega⟩ dX8_rank_124 (fun v124 w124 hp124 => ?_)
        obtain ⟨q', R', a0', a1', rfl, hR0', k0', k1', l0', l1', lo0', lo1', x1'⟩ := hp124
        obtain ⟨le1, le2⟩ := pw2_le hb0 gs (j := j + 1) (jr - (j + 1))
        rw [show j + 1 + (jr - (j + 1)) = jr by omega, hjr] at le1 le2
        dsimp only at le1 le2
        have ps1 := pw2_sol hb0 gs (j + 1)
        have sh0 := l0'.short (show ¬ LGN ≤ aB (pw2 (pb V) (leaP (pb V) r) (leaQ (pb V) r) (j + 1)).1 by have := ps1.1; rw [show aB (pw2 (pb V) (leaP (pb V) r) (leaQ (pb V) r) (j + 1)).1 = (pw2 (pb V) (leaP (pb V) r) (leaQ (pb V) r) (j + 1)).1 by unfold aB; rw [if_neg (by omega)]]; omega)
        have sh1 := l1'.short (show ¬ LGN ≤ aB (pw2 (pb V) (leaP (pb V) r) (leaQ (pb V) r) (j + 1)).2 by have := ps1.2.1; rw [show aB (pw2 (pb V) (leaP (pb V) r) (leaQ (pb V) r) (j + 1)).2 = (pw2 (pb V) (leaP (pb V) r) (leaQ (pb V) r) (j + 1)).2 by unfold aB; rw [if_neg (by omega)]]; omega)
        refine g_astore C dX8_rank_127 (by decide) rfl ?_
        refine g_iinc C dX8_rank_129 rfl (by decide) rfl ?_
        refine g_goto (tgt := 77) C dX8_rank_132 (by decide) ?_
        refine g_widen (k' := 44 + 17 * (j + 1)) (n' := 240 + 142 * (j + 1)) (by omega) (by omega) ?_
        exact ih (j + 1, w124, q') ⟨by dsimp only; omega, xu.tr x1', R', a0', a1', hR0', k0', k1', sh0, sh1⟩ (by dsimp only; omega)
      refine g_aload C dX8_rank_77 rfl ?_
      refine g_iconst C dX8_rank_79 ?_
      refine g_aaloadN (0) C rfl rfl hR0 (by omega) (by omega) k0 dX8_rank_80 ?_
      refine g_aload_n C dX8_rank_81 rfl ?_
      refine g_get (ci := 10) C rfl inTX8 4 (by decide) fl_RX8_24 rfl hMu.o rfl dX8_rank_82 ?_
      refine g_iload_n C dX8_rank_85 rfl ?_
      refine g_aaloadN (V) C rfl rfl hMu.l (by omega) (by omega) hq1 dX8_rank_86 ?_
      refine g_callS C (c_X8_bySize _ e0 (yu.2 _ _ eL) ⟨b0.n1, by omega⟩ ⟨bL.n1, by omega⟩ b0.d bL.d (fun h => bL.top (by have := b0.n1; omega)) (fun h => b0.top (by have := bL.n1; omega))) ml_RX8_63 sm_yX8_bySize in_RX8 co_yX8_bySize hd_X8_bySize rfl ⟨by omega, by omega⟩ rfl (Nat.le_of_ble_eq_true rfl) ⟨by omega, by omega⟩ dX8_rank_87 (fun v87 w87 hp87 => ?_)
      obtain ⟨⟨d87, rfl, hdr87, hd87⟩, hw87⟩ := hp87
      subst hw87
      rw [b0.abs, bL.abs] at hd87
      refine g_if_ne (tgt := 109) C dX8_rank_90 (by decide) (by omega) (fun h90 => ?_) (fun h90 => ?_)
      · exact J109 (fun hjj => by
          subst hjj
          rw [hjr] at pa0 pa1 hd87
          try rw [hjr] at hd103
          dsimp only at pa0 pa1 hd87
          first | omega | (dsimp only at hd103; omega))
      · refine g_aload C dX8_rank_93 rfl ?_
        refine g_iconst C dX8_rank_95 ?_
        refine g_aaloadN (1) C rfl rfl hR0 (by omega) (by omega) k1 dX8_rank_96 ?_
        refine g_aload_n C dX8_rank_97 rfl ?_
        refine g_get (ci := 10) C rfl inTX8 5 (by decide) fl_RX8_28 rfl hMu.o rfl dX8_rank_98 ?_
        refine g_iload_n C dX8_rank_101 rfl ?_
        refine g_aaloadN (V) C rfl rfl hMu.r (by omega) (by omega) hq2 dX8_rank_102 ?_
        refine g_callS C (c_X8_bySize _ e1' (yu.2 _ _ eR') ⟨b1'.n1, by omega⟩ ⟨bR.n1, by omega⟩ b1'.d bR.d (fun h => bR.top (by have := b1'.n1; omega)) (fun h => b1'.top (by have := bR.n1; omega))) ml_RX8_63 sm_yX8_bySize in_RX8 co_yX8_bySize hd_X8_bySize rfl ⟨by omega, by omega⟩ rfl (Nat.le_of_ble_eq_true rfl) ⟨by omega, by omega⟩ dX8_rank_103 (fun v103 w103 hp103 => ?_)
        obtain ⟨⟨d103, rfl, hdr103, hd103⟩, hw103⟩ := hp103
        subst hw103
        rw [b1'.abs, bR.abs] at hd103
        refine g_if_eq (tgt := 135) C dX8_rank_106 (by decide) (by omega) (fun h106 => ?_) (fun h106 => ?_)
        · refine g_iload C dX8_rank_135 rfl ?_
          exact g_ireturn C hQ dX8_rank_137 (by omega) (by omega) ⟨t6, _, rfl, hM6.ex yu, hK6.tr (Keep.ex yu), Or.inr ⟨hwk, by omega, Or.inr ⟨hn1, r, j, hr, rfl, by
            show pw2 (pb V) (leaP (pb V) r) (leaQ (pb V) r) j = (aB (le V), aB (ri V))
            rw [pa0] at hd87
            rw [pa1] at hd103
            refine Prod.ext ?_ ?_
            · show (pw2 (pb V) (leaP (pb V) r) (leaQ (pb V) r) j).1 = aB (le V); omega
            · show (pw2 (pb V) (leaP (pb V) r) (leaQ (pb V) r) j).2 = aB (ri V); omega⟩⟩⟩
        · exact J109 (fun hjj => by
            subst hjj
            rw [hjr] at pa0 pa1 hd87
            try rw [hjr] at hd103
            dsimp only at pa0 pa1 hd87
            first | omega | (dsimp only at hd103; omega))
    · refine g_iconst C dX8_rank_47 ?_
      exact g_ireturn C hQ dX8_rank_48 (by omega) (by omega) ⟨t6, _, rfl, hM7, hK6.tr (Keep.ex y38), Or.inr ⟨hwk, by omega, Or.inl ⟨rfl, fun (q : le V * le V - pb V * (ri V * ri V) = 1) => by omega⟩⟩⟩
  · refine g_iconst C dX8_rank_12 ?_
    exact g_ireturn C hQ dX8_rank_13 (by omega) (by omega) ⟨t6, _, rfl, hM6, hK6, Or.inl ⟨bI_1 h9, by omega, rfl⟩⟩
set_option maxHeartbeats 4000000 in
set_option maxRecDepth 100000 in
theorem c_X8_isWalkSound (l : Launch) {E : GE} {w : Wd} {τ : Nat → Nat} {m : Nat} {A : MA} {th : Int} {ba st pb le ri : Nat → Int} {sp : Nat → Nat → Int} {ct : Nat → Int} (hM : MSx τ w m A th ba st pb le ri sp ct) {i : Nat} {r : Int} (hi : i < 3) (hb : GB (ba i)) (hr : RT (ba i) r) (hs : 0 ≤ st i ∧ st i ≤ 24) : Sp E l yX8_isWalkSound cX8_isWalkSound 8 (some .boolean) 6 (47) (442) [.ref m, iI (i : Int)] w (fun r1 w' => r1 = some (iI 1) ∧ Ex w w') := by
  refine sp_intro [some (.ref m), some (iI (i : Int)), none, none, none, none, none, none] rfl (Nat.le_of_ble_eq_true rfl) pn_X8 ?_
  intro X C hRm hl hnm hQ
  obtain ⟨hRf, hRl, hRc, hRs⟩ := hRm
  refine g_wf (fun hwf => ?_)
  obtain ⟨K, hK⟩ := Int.eq_ofNat_of_zero_le hs.1
  have hKn : (st i).toNat = K := by omega
  have hK24 : K ≤ 24 := by omega
  obtain ⟨wk1, wk2, wk3, wk4, wk5⟩ := wk_good hb hr (k := K) (by omega)
  have cg := cf_good hb hr (k := K) (by omega)
  have cg1 := cf_good hb hr (k := K + 1) (by omega)
  have hb1 := hb.1
  have hb2 := hb.2.1
  have hr9 := RT_le hb hr
  refine g_aload_n C dX8_isWalkSound_0 rfl ?_
  refine g_get (ci := 10) C rfl inTX8 1 (by decide) fl_RX8_9 rfl hM.o rfl dX8_isWalkSound_1 ?_
  refine g_iload_n C dX8_isWalkSound_4 rfl ?_
  refine g_ialoadN (i) C hM.b (by omega) (by omega) dX8_isWalkSound_5 ?_
  refine g_istore_n C dX8_isWalkSound_6 (by decide) rfl ?_
  refine g_aload_n C dX8_isWalkSound_7 rfl ?_
  refine g_get (ci := 10) C rfl inTX8 2 (by decide) fl_RX8_13 rfl hM.o rfl dX8_isWalkSound_8 ?_
  refine g_iload_n C dX8_isWalkSound_11 rfl ?_
  refine g_ialoadN (i) C hM.s (by omega) (by omega) dX8_isWalkSound_12 ?_
  rw [hK]
  refine g_istore_n C dX8_isWalkSound_13 (by decide) rfl ?_
  refine g_iload_n C dX8_isWalkSound_14 rfl ?_
  refine g_iload_n C dX8_isWalkSound_15 rfl ?_
  refine g_callS C (c_X8_terms _ (b := ba i) (r := r) (K := K) hb hr (by omega)) ml_RX8_138 sm_yX8_terms in_RX8 co_yX8_terms hd_X8_terms rfl ⟨by omega, by omega⟩ rfl (Nat.le_of_ble_eq_true rfl) ⟨by omega, by omega⟩ dX8_isWalkSound_16 (fun v16 w16 hp16 => ?_)
  obtain ⟨f16, rfl, rfl, t0, t1, t2⟩ := hp16
  have x1 := Ex.push hwf (true, eI 3 f16)
  have hf16 : (wpush w (true, eI 3 f16)).2 w.1 = some (true, eI 3 f16) := wpush_s
  have hM1 := hM.ex x1
  refine g_astore C dX8_isWalkSound_19 (by decide) rfl ?_
  refine g_aload_n C dX8_isWalkSound_21 rfl ?_
  refine g_iload_n C dX8_isWalkSound_22 rfl ?_
  refine g_callV C (c_X8_at _ hM1 (i := i) (r := r) hi hb hr hs) (ci := 10) rfl hM1.o rfl ml_RX8_167 im_yX8_at se_RX8_yX8_at in_RX8 co_yX8_at hd_X8_at rfl ⟨by omega, by omega⟩ rfl (Nat.le_of_ble_eq_true rfl) ⟨by omega, by omega⟩ dX8_isWalkSound_23 (fun v23 w23 hp23 => ?_)
  obtain ⟨q, rfl, hR, x2, hq⟩ := hp23
  rw [hKn] at hR
  obtain ⟨R, a0, a1, a2, a3, hR0, k0, k1, k2, k3, l0, l1, l2, l3, -⟩ := id hR
  obtain ⟨nP, fP, eP, bP, dP⟩ := id l0
  obtain ⟨nQ, fQ, eQ, bQ, dQ⟩ := id l1
  refine g_wf (fun hwf23 => ?_)
  refine g_astore C dX8_isWalkSound_26 (by decide) rfl ?_
  refine g_iload_n C dX8_isWalkSound_28 rfl ?_
  refine g_iload_n C dX8_isWalkSound_29 rfl ?_
  refine g_iconst C dX8_isWalkSound_30 ?_
  refine g_iadd C dX8_isWalkSound_31 ?_
  rw [show (K : Int) + 1 = ((K + 1 : Nat) : Int) by omega]
  refine g_callS C (c_X8_terms _ (b := ba i) (r := r) (K := K + 1) hb hr (by omega)) ml_RX8_138 sm_yX8_terms in_RX8 co_yX8_terms hd_X8_terms rfl ⟨by omega, by omega⟩ rfl (Nat.le_of_ble_eq_true rfl) ⟨by omega, by omega⟩ dX8_isWalkSound_32 (fun v32 w32 hp32 => ?_)
  obtain ⟨f32, rfl, rfl, u0, u1, u2⟩ := hp32
  have x3 := Ex.push hwf23 (true, eI 3 f32)
  have x23 := x2.tr x3
  refine g_iconst C dX8_isWalkSound_35 ?_
  refine g_ialoadN (1) C wpush_s (by omega) (by omega) dX8_isWalkSound_36 ?_
  rw [u1]
  refine g_istore C dX8_isWalkSound_37 (by decide) rfl ?_
  refine g_aload C dX8_isWalkSound_39 rfl ?_
  refine g_iconst C dX8_isWalkSound_41 ?_
  refine g_ialoadN (0) C (x23.2 _ _ hf16) (by omega) (by omega) dX8_isWalkSound_42 ?_
  rw [t0]
  refine g_iconst C dX8_isWalkSound_43 ?_
  refine g_iload_n C dX8_isWalkSound_44 rfl ?_
  refine g_callS C (c_X8_root _ (b := ba i) (by omega)) ml_RX8_130 sm_yX8_root in_RX8 co_yX8_root hd_X8_root rfl ⟨by omega, by omega⟩ rfl (Nat.le_of_ble_eq_true rfl) ⟨by omega, by omega⟩ dX8_isWalkSound_45 (fun v45 w45 hp45 => ?_)
  obtain ⟨⟨rr45, rfl, z145, z245, z345⟩, hw45⟩ := hp45
  subst w45
  have er45 : r = rr45 := RT_uniq hr ⟨z145, z245, z345⟩
  subst er45
  refine g_callS C (c_X8_isIn _ (v := (cf (ba i) r K).1) (a := 0) (b := r) (by omega) (by omega) (by omega)) ml_RX8_49 sm_yX8_isIn in_RX8 co_yX8_isIn hd_X8_isIn rfl ⟨by omega, by omega⟩ rfl (Nat.le_of_ble_eq_true rfl) ⟨by omega, by omega⟩ dX8_isWalkSound_48 (fun v48 w48 hp48 => ?_)
  obtain ⟨rfl, hw48⟩ := hp48
  subst w48
  refine g_if_eq (tgt := 86) C dX8_isWalkSound_51 (by decide) (bI_r _) (fun h51 => ?_) (fun h51 => ?_)
  · exact absurd ⟨by omega, by omega⟩ (bI_0 h51)
  · refine g_aload C dX8_isWalkSound_54 rfl ?_
    refine g_iconst C dX8_isWalkSound_56 ?_
    refine g_ialoadN (1) C (x23.2 _ _ hf16) (by omega) (by omega) dX8_isWalkSound_57 ?_
    rw [t1]
    refine g_iconst C dX8_isWalkSound_58 ?_
    refine g_iconst C dX8_isWalkSound_59 ?_
    refine g_iload_n C dX8_isWalkSound_60 rfl ?_
    refine g_callS C (c_X8_root _ (b := ba i) (by omega)) ml_RX8_130 sm_yX8_root in_RX8 co_yX8_root hd_X8_root rfl ⟨by omega, by omega⟩ rfl (Nat.le_of_ble_eq_true rfl) ⟨by omega, by omega⟩ dX8_isWalkSound_61 (fun v61 w61 hp61 => ?_)
    obtain ⟨⟨rr61, rfl, z161, z261, z361⟩, hw61⟩ := hp61
    subst w61
    have er61 : r = rr61 := RT_uniq hr ⟨z161, z261, z361⟩
    subst er61
    refine g_imul C dX8_isWalkSound_64 ?_
    refine g_callS C (c_X8_isIn _ (v := (cf (ba i) r K).2.1) (a := 1) (b := 2 * r) (by omega) (by omega) (by omega)) ml_RX8_49 sm_yX8_isIn in_RX8 co_yX8_isIn hd_X8_isIn rfl ⟨by omega, by omega⟩ rfl (Nat.le_of_ble_eq_true rfl) ⟨by omega, by omega⟩ dX8_isWalkSound_65 (fun v65 w65 hp65 => ?_)
    obtain ⟨rfl, hw65⟩ := hp65
    subst w65
    refine g_if_eq (tgt := 86) C dX8_isWalkSound_68 (by decide) (bI_r _) (fun h68 => ?_) (fun h68 => ?_)
    · exact absurd ⟨by omega, by omega⟩ (bI_0 h68)
    · refine g_iload_n C dX8_isWalkSound_71 rfl ?_
      refine g_aload C dX8_isWalkSound_72 rfl ?_
      refine g_iconst C dX8_isWalkSound_74 ?_
      refine g_callS C (c_X8_tested _ (what := 0) hb hr (by omega) (hR.ex x3) (by omega)) ml_RX8_192 sm_yX8_tested in_RX8 co_yX8_tested hd_X8_tested rfl ⟨by omega, by omega⟩ rfl (Nat.le_of_ble_eq_true rfl) ⟨by omega, by omega⟩ dX8_isWalkSound_75 (fun v75 w75 hp75 => ?_)
      obtain ⟨rfl, x4⟩ := hp75
      have x234 := x23.tr x4
      have tr0 := tst_r hb hr (k := K) (by omega) 0
      have tr1 := tst_r hb hr (k := K) (by omega) 1
      refine g_iconst C dX8_isWalkSound_78 ?_
      refine g_icmp_ne (tgt := 86) C dX8_isWalkSound_79 (by decide) (by omega) (by omega) (fun h79 => ?_) (fun h79 => ?_)
      · exact absurd (show tstV (ba i) r K 0 = 1 from if_pos rfl) h79
      · refine g_iconst C dX8_isWalkSound_82 ?_
        refine g_goto (tgt := 87) C dX8_isWalkSound_83 (by decide) ?_
        refine g_istore C dX8_isWalkSound_87 (by decide) rfl ?_
        refine g_iload C dX8_isWalkSound_89 rfl ?_
        refine g_if_eq (tgt := 158) C dX8_isWalkSound_91 (by decide) (by omega) (fun h91 => ?_) (fun h91 => ?_)
        · omega
        · refine g_iload_n C dX8_isWalkSound_94 rfl ?_
          refine g_aload C dX8_isWalkSound_95 rfl ?_
          refine g_iconst C dX8_isWalkSound_97 ?_
          refine g_callS C (c_X8_tested _ (what := 1) hb hr (by omega) (hR.ex (x3.tr x4)) (by omega)) ml_RX8_192 sm_yX8_tested in_RX8 co_yX8_tested hd_X8_tested rfl ⟨by omega, by omega⟩ rfl (Nat.le_of_ble_eq_true rfl) ⟨by omega, by omega⟩ dX8_isWalkSound_98 (fun v98 w98 hp98 => ?_)
          obtain ⟨rfl, x5⟩ := hp98
          have x345 := (x3.tr x4).tr x5
          have J113 : ∀ s : Int, (K % 2 = 1 ∧ s = 1 ∨ K % 2 ≠ 1 ∧ s = -1) → G E X 8 113 [some (.ref m), some (iI (i : Int)), some (iI (ba i)), some (iI (K : Int)), some (.ref w.1), some (.ref q), some (iI (cf (ba i) r (K + 1)).2.1), some (iI 1)] [iI s, iI (tstV (ba i) r K 1)] w98 34 310 := by
            intro s hs'
            have e1 : tstV (ba i) r K 1 = s := by
              unfold tstV
              rw [if_neg (by decide), if_pos rfl]
              split <;> omega
            refine g_icmp_ne (tgt := 158) C dX8_isWalkSound_113 (by decide) (by omega) (by omega) (fun h113 => ?_) (fun h113 => ?_)
            · omega
            · refine g_iload_n C dX8_isWalkSound_116 rfl ?_
              refine g_aload C dX8_isWalkSound_117 rfl ?_
              refine g_iconst C dX8_isWalkSound_119 ?_
              refine g_aaloadN (0) C rfl rfl (x345.2 _ _ hR0) (by omega) (by omega) k0 dX8_isWalkSound_120 ?_
              refine g_aload C dX8_isWalkSound_121 rfl ?_
              refine g_iconst C dX8_isWalkSound_123 ?_
              refine g_aaloadN (1) C rfl rfl (x345.2 _ _ hR0) (by omega) (by omega) k1 dX8_isWalkSound_124 ?_
              refine g_callS C (c_X8_norm _ (c := 5) (x345.2 _ _ eP) (x345.2 _ _ eQ) bP bQ dP dQ (by omega) (by omega)) ml_RX8_188 sm_yX8_norm in_RX8 co_yX8_norm hd_X8_norm rfl ⟨by omega, by omega⟩ rfl (Nat.le_of_ble_eq_true rfl) ⟨by omega, by omega⟩ dX8_isWalkSound_125 (fun v125 w125 hp125 => ?_)
              obtain ⟨q125, m125, g125, rfl, h125, hb125, hm125, x6, hq125⟩ := hp125
              have J145 : ∀ s : Int, (K % 2 = 1 ∧ s = (cf (ba i) r (K + 1)).2.1 ∨ K % 2 ≠ 1 ∧ s = -(cf (ba i) r (K + 1)).2.1) → G E X 8 145 [some (.ref m), some (iI (i : Int)), some (iI (ba i)), some (iI (K : Int)), some (.ref w.1), some (.ref q), some (iI (cf (ba i) r (K + 1)).2.1), some (iI 1)] [jJ s, .ref q125] w125 45 434 := by
                intro s hs'
                have e1 : s = (if K % 2 = 1 then (cf (ba i) r (K + 1)).2.1 else -(cf (ba i) r (K + 1)).2.1) := by split <;> omega
                rw [← e1] at wk2
                rw [wk2] at hb125
                refine g_callS C (c_X8_of _ (v := s) (by omega)) ml_RX8_20 sm_yX8_of in_RX8 co_yX8_of hd_X8_of rfl ⟨by omega, by omega⟩ rfl (Nat.le_of_ble_eq_true rfl) ⟨by omega, by omega⟩ dX8_isWalkSound_145 (fun v145 w145 hp145 => ?_)
                obtain ⟨m145, f145, rfl, e145, b145, c145, s145, x7⟩ := hp145
                refine g_callS C (c_X8_side _ (x7.2 _ _ h125) e145 hb125 b145 (by omega) (by omega)) ml_RX8_199 sm_yX8_side in_RX8 co_yX8_side hd_X8_side rfl ⟨by omega, by omega⟩ rfl (Nat.le_of_ble_eq_true rfl) ⟨by omega, by omega⟩ dX8_isWalkSound_148 (fun v148 w148 hp148 => ?_)
                obtain ⟨⟨d148, rfl, hd148⟩, hw148⟩ := hp148
                subst w148
                refine g_if_ne (tgt := 158) C dX8_isWalkSound_151 (by decide) (by omega) (fun h151 => ?_) (fun h151 => ?_)
                · omega
                · refine g_iconst C dX8_isWalkSound_154 ?_
                  refine g_goto (tgt := 159) C dX8_isWalkSound_155 (by decide) ?_
                  exact g_zreturn C hQ dX8_isWalkSound_159 (nar01 (by omega)) (by omega) (by omega) ⟨rfl, ((x1.tr x2).tr x345).tr (x6.tr x7)⟩
              refine g_iload_n C dX8_isWalkSound_128 rfl ?_
              refine g_iconst C dX8_isWalkSound_129 ?_
              refine g_iremN C dX8_isWalkSound_130 (by omega) (by omega) ?_
              refine g_iconst C dX8_isWalkSound_131 ?_
              refine g_icmp_ne (tgt := 141) C dX8_isWalkSound_132 (by decide) (by omega) (by omega) (fun h132 => ?_) (fun h132 => ?_)
              · refine g_iload C dX8_isWalkSound_141 rfl ?_
                refine g_ineg C dX8_isWalkSound_143 ?_
                refine g_i2l C dX8_isWalkSound_144 (by omega) ?_
                exact J145 _ (by omega)
              · refine g_iload C dX8_isWalkSound_135 rfl ?_
                refine g_i2l C dX8_isWalkSound_137 (by omega) ?_
                refine g_goto (tgt := 145) C dX8_isWalkSound_138 (by decide) ?_
                exact J145 _ (by omega)
          refine g_widen (k' := 34) (n' := 310) (by omega) (by omega) ?_
          refine g_iload_n C dX8_isWalkSound_101 rfl ?_
          refine g_iconst C dX8_isWalkSound_102 ?_
          refine g_iremN C dX8_isWalkSound_103 (by omega) (by omega) ?_
          refine g_iconst C dX8_isWalkSound_104 ?_
          refine g_icmp_ne (tgt := 112) C dX8_isWalkSound_105 (by decide) (by omega) (by omega) (fun h105 => ?_) (fun h105 => ?_)
          · refine g_iconst C dX8_isWalkSound_112 ?_
            exact J113 _ (by omega)
          · refine g_iconst C dX8_isWalkSound_108 ?_
            refine g_goto (tgt := 113) C dX8_isWalkSound_109 (by decide) ?_
            exact J113 _ (by omega)
