set_option maxHeartbeats 4000000 in
set_option maxRecDepth 100000 in
theorem s_X5_setProduct (l : Launch) {E : GE} {w : Wd} {a r b s c t : Nat} (h1 : WS w a r) (h2 : WS w b s) (h3 : WS w c t) (hrs : r ≠ s) (hrt : r ≠ t) : Sp E l yX5_setProduct cX5_setProduct 8 none 2 (0) (0) [.ref a, .ref b, .ref c] w (fun r' w' => r' = none ∧ WS w' a r ∧ FrW w w' a r) := by
  refine sp_intro [some (.ref a), some (.ref b), some (.ref c), none, none, none, none, none] rfl (Nat.le_of_ble_eq_true rfl) pn_X5 ?_
  intro X C hRm hl hnm hQ
  obtain ⟨hRf, hRl, hRc, hRs⟩ := hRm
  refine g_wf (fun hwf => ?_)
  have hB28 : B28 = 268435456 := rfl
  obtain ⟨f, u, bl, hO, hR, hf, hu18, hbl⟩ := id h1
  obtain ⟨g, v, bm, hO2, hR2, hg, hv18, hbm⟩ := id h2
  obtain ⟨g2, v2, bn, hO3, hR3, hg2, hv28, hbn⟩ := id h3
  have hne := oI_ne hO hR
  obtain ⟨hab, has, hrb, -, -⟩ := h1.ne h2 hrs
  obtain ⟨hac, hat, hrc, -, -⟩ := h1.ne h3 hrt
  have hbr := Ne.symm hrb
  have hcr := Ne.symm hrc
  obtain ⟨e, he1, he2, he3⟩ := mn18 (v + v2)
  refine g_aload_n C dX5_setProduct_0 rfl ?_
  refine g_callV C (c_X5_clear _ hO hR) (ci := 7) rfl hO rfl ml_RX5_25 im_yX5_clear se_RX5_yX5_clear in_RX5 co_yX5_clear hd_X5_clear rfl ⟨by omega, by omega⟩ rfl (Nat.le_of_ble_eq_true rfl) ⟨by omega, by omega⟩ dX5_setProduct_1 (fun v1 w1 hp1 => ?_)
  obtain ⟨rfl, g1, hO1, hR1, hg1, fr1⟩ := hp1
  have kB : w1.2 b = some (true, oW s v bm) := by rw [fr1.2 b (Ne.symm hab) hbr]; exact hO2
  have kC : w1.2 c = some (true, oW t v2 bn) := by rw [fr1.2 c (Ne.symm hac) hcr]; exact hO3
  have kS : w1.2 s = some (true, eI 18 g) := by rw [fr1.2 s (Ne.symm has) (Ne.symm hrs)]; exact hR2
  have kT : w1.2 t = some (true, eI 18 g2) := by rw [fr1.2 t (Ne.symm hat) (Ne.symm hrt)]; exact hR3
  refine g_bipush C dX5_setProduct_4 (by decide) ?_
  refine g_aload_n C dX5_setProduct_6 rfl ?_
  refine g_get (ci := 7) C rfl inTX5 1 (by decide) fl_RX5_17 rfl kB rfl dX5_setProduct_7 ?_
  refine g_aload_n C dX5_setProduct_10 rfl ?_
  refine g_get (ci := 7) C rfl inTX5 1 (by decide) fl_RX5_17 rfl kC rfl dX5_setProduct_11 ?_
  refine g_iadd C dX5_setProduct_14 ?_
  rw [show (v : Int) + (v2 : Int) = ((v + v2 : Nat) : Int) by omega]
  refine g_min C ml_RX5_66 (by omega) (by omega) (by omega) (by omega) (Nat.le_of_ble_eq_true rfl) (by omega) dX5_setProduct_15 ?_
  rw [he3]
  refine g_istore_n C dX5_setProduct_18 (by decide) rfl ?_
  refine g_iconst C dX5_setProduct_19 ?_
  refine g_istore C dX5_setProduct_20 (by decide) rfl ?_
  suffices hh : G E X 8 22 [some (.ref a), some (.ref b), some (.ref c), some (iI (e : Int)), some (iI ((0 : Nat) : Int)), none, none, none] [] (wset w1 r (true, eI 18 g1)) 0 0 by rw [wset_id hR1] at hh; exact hh
  refine g_loop (σ := Nat × (Nat → Int)) (fun q => q.1 ≤ 18 ∧ DC q.2) (fun q => G E X 8 22 [some (.ref a), some (.ref b), some (.ref c), some (iI (e : Int)), some (iI (q.1 : Int)), none, none, none] [] (wset w1 r (true, eI 18 q.2)) 0 0) (fun q => 18 - q.1) ?_ (0, g1) ⟨by dsimp only; omega, fun i hi => by dsimp only; rw [hg1 i hi]; decide⟩
  rintro ⟨i, h⟩ hq ih
  obtain ⟨hi, hdh⟩ := hq
  dsimp only at hi hdh ⊢
  have hOi : (wset w1 r (true, eI 18 h)).2 a = some (true, eO 7 [.ref r, iI 0, iI 0]) := by rw [wset_n hne]; exact hO1
  have hBi : (wset w1 r (true, eI 18 h)).2 b = some (true, oW s v bm) := by rw [wset_n hbr]; exact kB
  have hCi : (wset w1 r (true, eI 18 h)).2 c = some (true, oW t v2 bn) := by rw [wset_n hcr]; exact kC
  have hSi : (wset w1 r (true, eI 18 h)).2 s = some (true, eI 18 g) := by rw [wset_n (Ne.symm hrs)]; exact kS
  have hTi : (wset w1 r (true, eI 18 h)).2 t = some (true, eI 18 g2) := by rw [wset_n (Ne.symm hrt)]; exact kT
  have J131 : G E X 8 131 [some (.ref a), some (.ref b), some (.ref c), some (iI (e : Int)), some (iI (i : Int)), none, none, none] [] (wset w1 r (true, eI 18 h)) 0 0 := by
    refine g_aload_n C dX5_setProduct_131 rfl ?_
    have J148 : ∀ q : Int, (q = 0 ∨ q = 1) → G E X 8 148 [some (.ref a), some (.ref b), some (.ref c), some (iI (e : Int)), some (iI (i : Int)), none, none, none] [iI q, .ref a] (wset w1 r (true, eI 18 h)) 0 0 := by
      intro q hq
      refine g_put (ci := 7) C rfl inTX5 tyX5 tyX5_ok nmX5 2 (by decide) fl_RX5_13 rfl rfl hOi (Nat.le_of_ble_eq_true rfl) (by rcases hq with q1 | q1 <;> (rw [q1]; rfl)) (by rcases hq with q1 | q1 <;> (rw [q1]; rfl)) dX5_setProduct_148 ?_
      refine g_aload_n C dX5_setProduct_151 rfl ?_
      refine g_iload_n C dX5_setProduct_152 rfl ?_
      refine g_callV C (s_X5_trim _ (p := e) wset_s (by rw [wset_n (Ne.symm hne)]; exact wset_s) hdh he1 hq) (ci := 7) rfl wset_s rfl ml_RX5_30 im_yX5_trim se_RX5_yX5_trim in_RX5 co_yX5_trim hd_X5_trim rfl ⟨by omega, by omega⟩ rfl (Nat.le_of_ble_eq_true rfl) ⟨by omega, by omega⟩ dX5_setProduct_153 (fun v153 w153 hp153 => ?_)
      obtain ⟨rfl, hw9, fr9⟩ := hp153
      exact g_return C hQ dX5_setProduct_156 (Nat.le_refl _) (Nat.le_refl _) ⟨rfl, hw9, ⟨fr9.1.trans fr1.1, fun x k1 k2 => by rw [fr9.2 x k1, wset_n k1, wset_n k2]; exact fr1.2 x k1 k2⟩⟩
    refine g_aload_n C dX5_setProduct_132 rfl ?_
    refine g_get (ci := 7) C rfl inTX5 2 (by decide) fl_RX5_13 rfl hBi rfl dX5_setProduct_133 ?_
    refine g_aload_n C dX5_setProduct_136 rfl ?_
    refine g_get (ci := 7) C rfl inTX5 2 (by decide) fl_RX5_13 rfl hCi rfl dX5_setProduct_137 ?_
    refine g_icmp_eq (tgt := 147) C dX5_setProduct_140 (by decide) (by omega) (by omega) (fun h140 => ?_) (fun h140 => ?_)
    · refine g_iconst C dX5_setProduct_147 ?_
      exact J148 _ (by omega)
    · refine g_iconst C dX5_setProduct_143 ?_
      refine g_goto (tgt := 148) C dX5_setProduct_144 (by decide) ?_
      exact J148 _ (by omega)
  refine g_iload C dX5_setProduct_22 rfl ?_
  refine g_aload_n C dX5_setProduct_24 rfl ?_
  refine g_get (ci := 7) C rfl inTX5 1 (by decide) fl_RX5_17 rfl hBi rfl dX5_setProduct_25 ?_
  refine g_icmp_ge (tgt := 131) C dX5_setProduct_28 (by decide) (by omega) (by omega) (fun h28 => ?_) (fun h28 => ?_)
  · exact J131
  · refine g_iload C dX5_setProduct_31 rfl ?_
    refine g_iload_n C dX5_setProduct_33 rfl ?_
    refine g_icmp_ge (tgt := 131) C dX5_setProduct_34 (by decide) (by omega) (by omega) (fun h34 => ?_) (fun h34 => ?_)
    · exact J131
    · refine g_lconst (z := 0) C dX5_setProduct_37 (by decide) ?_
      refine g_lstore C dX5_setProduct_38 (by decide) rfl ?_
      refine g_iconst C dX5_setProduct_40 ?_
      refine g_istore C dX5_setProduct_41 (by decide) rfl ?_
      refine g_loop (σ := Nat × Int × (Nat → Int)) (fun q => q.1 ≤ 19 ∧ (0 ≤ q.2.1 ∧ q.2.1 < 68719476736) ∧ DC q.2.2) (fun q => G E X 8 43 [some (.ref a), some (.ref b), some (.ref c), some (iI (e : Int)), some (iI (i : Int)), some (jJ q.2.1), none, some (iI (q.1 : Int))] [] (wset w1 r (true, eI 18 q.2.2)) 0 0) (fun q => 19 - q.1) ?_ (0, 0, h) ⟨by dsimp only; omega, by dsimp only; omega, hdh⟩
      clear hOi hBi hCi hSi hTi
      rintro ⟨j, cy, k⟩ hq ih2
      obtain ⟨hj, hcy, hdk⟩ := hq
      dsimp only at hj hcy hdk ⊢
      have hOk : (wset w1 r (true, eI 18 k)).2 a = some (true, eO 7 [.ref r, iI 0, iI 0]) := by rw [wset_n hne]; exact hO1
      have hBk : (wset w1 r (true, eI 18 k)).2 b = some (true, oW s v bm) := by rw [wset_n hbr]; exact kB
      have hCk : (wset w1 r (true, eI 18 k)).2 c = some (true, oW t v2 bn) := by rw [wset_n hcr]; exact kC
      have hSk : (wset w1 r (true, eI 18 k)).2 s = some (true, eI 18 g) := by rw [wset_n (Ne.symm hrs)]; exact kS
      have hTk : (wset w1 r (true, eI 18 k)).2 t = some (true, eI 18 g2) := by rw [wset_n (Ne.symm hrt)]; exact kT
      refine g_iload C dX5_setProduct_43 rfl ?_
      refine g_aload_n C dX5_setProduct_45 rfl ?_
      refine g_get (ci := 7) C rfl inTX5 1 (by decide) fl_RX5_17 rfl hCk rfl dX5_setProduct_46 ?_
      refine g_icmp_gt (tgt := 125) C dX5_setProduct_49 (by decide) (by omega) (by omega) (fun h49 => ?_) (fun h49 => ?_)
      · refine g_iinc C dX5_setProduct_125 rfl (by decide) rfl ?_
        refine g_goto (tgt := 22) C dX5_setProduct_128 (by decide) ?_
        refine g_drop 7 ?_
        refine g_drop 5 ?_
        exact ih (i + 1, k) ⟨by dsimp only; omega, hdk⟩ (by dsimp only; omega)
      · refine g_iload C dX5_setProduct_52 rfl ?_
        refine g_iload C dX5_setProduct_54 rfl ?_
        refine g_iadd C dX5_setProduct_56 ?_
        refine g_iload_n C dX5_setProduct_57 rfl ?_
        refine g_icmp_ge (tgt := 125) C dX5_setProduct_58 (by decide) (by omega) (by omega) (fun h58 => ?_) (fun h58 => ?_)
        · refine g_iinc C dX5_setProduct_125 rfl (by decide) rfl ?_
          refine g_goto (tgt := 22) C dX5_setProduct_128 (by decide) ?_
          refine g_drop 7 ?_
          refine g_drop 5 ?_
          exact ih (i + 1, k) ⟨by dsimp only; omega, hdk⟩ (by dsimp only; omega)
        · have hkj := hdk (i + j) (by omega)
          have hgi := hg i (by omega)
          have hgj := hg2 j (by omega)
          have hmb : 0 ≤ g i * g2 j ∧ g i * g2 j ≤ 268435456 * 268435456 := ⟨Int.mul_nonneg hgi.1 hgj.1, Int.mul_le_mul (by omega) (by omega) hgj.1 (by decide)⟩
          have hm28 := mod28 (cy + (k (i + j) + g i * g2 j))
          obtain ⟨z116, hz116, hz116a, hz116b⟩ := ushr28 (cy + (k (i + j) + g i * g2 j))
          refine g_lload C dX5_setProduct_61 rfl ?_
          refine g_aload_n C dX5_setProduct_63 rfl ?_
          refine g_get (ci := 7) C rfl inTX5 0 (by decide) fl_RX5_9 rfl hOk rfl dX5_setProduct_64 ?_
          refine g_iload C dX5_setProduct_67 rfl ?_
          refine g_iload C dX5_setProduct_69 rfl ?_
          refine g_iadd C dX5_setProduct_71 ?_
          rw [show (i : Int) + (j : Int) = ((i + j : Nat) : Int) by omega]
          refine g_ialoadN (i + j) C wset_s (by omega) (by omega) dX5_setProduct_72 ?_
          refine g_i2l C dX5_setProduct_73 (by omega) ?_
          refine g_aload_n C dX5_setProduct_74 rfl ?_
          refine g_get (ci := 7) C rfl inTX5 0 (by decide) fl_RX5_9 rfl hBk rfl dX5_setProduct_75 ?_
          refine g_iload C dX5_setProduct_78 rfl ?_
          refine g_ialoadN (i) C hSk (by omega) (by omega) dX5_setProduct_80 ?_
          refine g_i2l C dX5_setProduct_81 (by omega) ?_
          refine g_aload_n C dX5_setProduct_82 rfl ?_
          refine g_get (ci := 7) C rfl inTX5 0 (by decide) fl_RX5_9 rfl hCk rfl dX5_setProduct_83 ?_
          refine g_iload C dX5_setProduct_86 rfl ?_
          refine g_ialoadN (j) C hTk (by omega) (by omega) dX5_setProduct_88 ?_
          refine g_i2l C dX5_setProduct_89 (by omega) ?_
          refine g_lmul C dX5_setProduct_90 ?_
          refine g_ladd C dX5_setProduct_91 ?_
          refine g_ladd C dX5_setProduct_92 ?_
          refine g_lstore C dX5_setProduct_93 (by decide) rfl ?_
          refine g_aload_n C dX5_setProduct_95 rfl ?_
          refine g_get (ci := 7) C rfl inTX5 0 (by decide) fl_RX5_9 rfl hOk rfl dX5_setProduct_96 ?_
          refine g_iload C dX5_setProduct_99 rfl ?_
          refine g_iload C dX5_setProduct_101 rfl ?_
          refine g_iadd C dX5_setProduct_103 ?_
          rw [show (i : Int) + (j : Int) = ((i + j : Nat) : Int) by omega]
          refine g_lload C dX5_setProduct_104 rfl ?_
          refine g_ldc2 (z := 268435455) C kj_RX5_28 (by decide) dX5_setProduct_106 ?_
          refine g_land (z := (cy + (k (i + j) + g i * g2 j)) % B28) C dX5_setProduct_109 (j_mask 28 (by omega) mask28) ?_
          refine g_l2i C dX5_setProduct_110 ?_
          refine g_iastoreN (i + j) C wset_s (by omega) (by omega) dX5_setProduct_111 ?_
          rw [wset_set]
          refine g_lload C dX5_setProduct_112 rfl ?_
          refine g_bipush C dX5_setProduct_114 (by decide) ?_
          refine g_lushr (z := z116) C dX5_setProduct_116 hz116 ?_
          refine g_lstore C dX5_setProduct_117 (by decide) rfl ?_
          refine g_iinc C dX5_setProduct_119 rfl (by decide) rfl ?_
          refine g_goto (tgt := 43) C dX5_setProduct_122 (by decide) ?_
          exact ih2 (j + 1, z116, iup k (i + j) ((cy + (k (i + j) + g i * g2 j)) % B28)) ⟨by dsimp only; omega, by dsimp only; omega, hdk.up _ hm28⟩ (by dsimp only; omega)
