set_option maxHeartbeats 4000000 in
set_option maxRecDepth 100000 in
theorem c_X8_isWhole (l : Launch) {E : GE} {w : Wd} {τ : Nat → Nat} {m : Nat} {A : MA} {th : Int} {ba st pb le ri : Nat → Int} {sp : Nat → Nat → Int} {ct : Nat → Int} (hM : MSx τ w m A th ba st pb le ri sp ct) (hB : ∀ i, i < 3 → GB (ba i)) (hS : ∀ i, i < 3 → 0 ≤ st i ∧ st i ≤ 24) (hP : HPp pb le ri) (hZ : HZp sp) : Sp E l yX8_isWhole cX8_isWhole 7 (some .boolean) 7 (174) (1680) [.ref m] w (fun r1 w' => r1 = some (iI 1) ∧ Ex w w') := by
  refine sp_intro [some (.ref m), none, none, none, none, none, none] rfl (Nat.le_of_ble_eq_true rfl) pn_X8 ?_
  intro X C hRm hl hnm hQ
  obtain ⟨hRf, hRl, hRc, hRs⟩ := hRm
  refine g_wf (fun hwf => ?_)
  refine g_iconst C dX8_isWhole_0 ?_
  refine g_istore_n C dX8_isWhole_1 (by decide) rfl ?_
  refine g_iconst C dX8_isWhole_2 ?_
  refine g_istore_n C dX8_isWhole_3 (by decide) rfl ?_
  refine g_loop (σ := Nat × Wd) (fun s => s.1 ≤ 3 ∧ Ex w s.2) (fun s => G E X 7 4 [some (.ref m), some (iI 1), some (iI (s.1 : Int)), none, none, none, none] [] s.2 (58 * s.1) (560 * s.1)) (fun s => 3 - s.1) ?_ (0, w) ⟨by dsimp only; omega, Ex.rf w⟩
  rintro ⟨i, u⟩ hq ih
  obtain ⟨hi, xu⟩ := hq
  dsimp only at hi xu ⊢
  have hMu := hM.ex xu
  refine g_iload_n C dX8_isWhole_4 rfl ?_
  refine g_iconst C dX8_isWhole_5 ?_
  refine g_icmp_ge (tgt := 203) C dX8_isWhole_6 (by decide) (by omega) (by omega) (fun h6 => ?_) (fun h6 => ?_)
  · refine g_iload_n C dX8_isWhole_203 rfl ?_
    exact g_zreturn C hQ dX8_isWhole_204 rfl (by omega) (by omega) ⟨rfl, xu⟩
  · have hi3 : i < 3 := by omega
    obtain ⟨g1, gL, gR⟩ := hP i hi3
    have g11 := g1.1
    have g12 := g1.2.1
    have gb := hB i hi3
    have gs := hS i hi3
    obtain ⟨r, hr⟩ := RT_ex gb
    obtain ⟨p, kk, hSp⟩ := hZ i hi3
    obtain ⟨sv, f0, f1, f2, f3, f4, f5⟩ := id hSp
    have sp5 := sv.p
    obtain ⟨v1, v2, v3, v4, v5, v6, v7, v8, v9⟩ := sv.good
    obtain ⟨w1, w2, w3⟩ := sv.wit
    obtain ⟨q1, hq1, tq1, r1⟩ := hMu.L hi3
    obtain ⟨q2, hq2, tq2, r2⟩ := hMu.R hi3
    obtain ⟨q3, hq3, tq3, r3⟩ := hMu.Z hi3
    obtain ⟨nL, fL, eL, bL, dL⟩ := id r1
    obtain ⟨nR, fR, eR', bR, dR⟩ := id r2
    have hime : ima p < p := by unfold ima; exact pmN_lt (p := p) (by omega) _
    generalize hA : (spS p kk).1 = sA at *
    generalize hBB : (spS p kk).2.1 = sB at *
    generalize hUU : (spS p kk).2.2.1 = sU at *
    generalize hVV : (spS p kk).2.2.2 = sV at *
    have aU := (show -sU ≤ aB sU ∧ sU ≤ aB sU ∧ 0 ≤ aB sU by unfold aB; split <;> omega)
    have aV := (show -sV ≤ aB sV ∧ sV ≤ aB sV ∧ 0 ≤ aB sV by unfold aB; split <;> omega)
    have pA : 0 ≤ sA * sA ∧ sA * sA ≤ 997 * 997 := ⟨Int.mul_nonneg (by omega) (by omega), Int.mul_le_mul (by omega) (by omega) (by omega) (by omega)⟩
    have pU : 0 ≤ sU * sU ∧ sU * sU ≤ 997 * 997 := by
      rw [← aB_sq sU]
      exact ⟨Int.mul_nonneg (by omega) (by omega), Int.mul_le_mul (by omega) (by omega) (by omega) (by omega)⟩
    have pI : 0 ≤ ((ima p : Nat) : Int) * ((ima p : Nat) : Int) ∧ ((ima p : Nat) : Int) * ((ima p : Nat) : Int) ≤ 997 * 997 := ⟨Int.mul_nonneg (by omega) (by omega), Int.mul_le_mul (by omega) (by omega) (by omega) (by omega)⟩
    have pI2 : (((ima p : Nat) : Int) * ((ima p : Nat) : Int) + 1) % (p : Int) = 0 := by
      have e9 : ((ima p : Nat) : Int) * ((ima p : Nat) : Int) + 1 = ((ima p * ima p + 1 : Nat) : Int) := by simp
      rw [e9]
      omega
    refine g_widen (k' := 58 * i) (n' := 560 * i) (by omega) (by omega) ?_
    refine g_aload_n C dX8_isWhole_9 rfl ?_
    refine g_get (ci := 10) C rfl inTX8 4 (by decide) fl_RX8_24 rfl hMu.o rfl dX8_isWhole_10 ?_
    refine g_iload_n C dX8_isWhole_13 rfl ?_
    refine g_aaloadN (i) C rfl rfl hMu.l (by omega) (by omega) hq1 dX8_isWhole_14 ?_
    refine g_astore_n C dX8_isWhole_15 (by decide) rfl ?_
    refine g_aload_n C dX8_isWhole_16 rfl ?_
    refine g_get (ci := 10) C rfl inTX8 5 (by decide) fl_RX8_28 rfl hMu.o rfl dX8_isWhole_17 ?_
    refine g_iload_n C dX8_isWhole_20 rfl ?_
    refine g_aaloadN (i) C rfl rfl hMu.r (by omega) (by omega) hq2 dX8_isWhole_21 ?_
    refine g_astore C dX8_isWhole_22 (by decide) rfl ?_
    refine g_aload_n C dX8_isWhole_24 rfl ?_
    refine g_get (ci := 10) C rfl inTX8 6 (by decide) fl_RX8_35 rfl hMu.o rfl dX8_isWhole_25 ?_
    refine g_iload_n C dX8_isWhole_28 rfl ?_
    refine g_aaloadN (i) C rfl rfl hMu.z (by omega) (by omega) hq3 dX8_isWhole_29 ?_
    refine g_astore C dX8_isWhole_30 (by decide) rfl ?_
    refine g_aload C dX8_isWhole_32 rfl ?_
    refine g_iconst C dX8_isWhole_34 ?_
    refine g_ialoadN (0) C r3 (by omega) (by omega) dX8_isWhole_35 ?_
    rw [f0]
    refine g_callS C (c_X8_imaginary _ (p := p) sv.1) ml_RX8_257 sm_yX8_imaginary in_RX8 co_yX8_imaginary hd_X8_imaginary rfl ⟨by omega, by omega⟩ rfl (Nat.le_of_ble_eq_true rfl) ⟨by omega, by omega⟩ dX8_isWhole_36 (fun v36 w36 hp36 => ?_)
    obtain ⟨rfl, hw36⟩ := hp36
    subst hw36
    refine g_istore C dX8_isWhole_39 (by decide) rfl ?_
    refine g_iload_n C dX8_isWhole_41 rfl ?_
    refine g_aload_n C dX8_isWhole_42 rfl ?_
    refine g_iload_n C dX8_isWhole_43 rfl ?_
    refine g_callV C (c_X8_isWalkSound _ hMu hi3 gb hr gs) (ci := 10) rfl hMu.o rfl ml_RX8_277 im_yX8_isWalkSound se_RX8_yX8_isWalkSound in_RX8 co_yX8_isWalkSound hd_X8_isWalkSound rfl ⟨by omega, by omega⟩ rfl (Nat.le_of_ble_eq_true rfl) ⟨by omega, by omega⟩ dX8_isWhole_44 (fun v44 w44 hp44 => ?_)
    obtain ⟨rfl, x44⟩ := hp44
    have hM2 := hMu.ex x44
    have r3' := x44.2 _ _ r3
    refine g_if_eq (tgt := 112) C dX8_isWhole_47 (by decide) (by omega) (fun h47 => ?_) (fun h47 => ?_)
    · omega
    · refine g_aload_n C dX8_isWhole_50 rfl ?_
      refine g_callS C (c_X8_isLong _ (x44.2 _ _ eL) ⟨bL.n1, by omega⟩ bL.d) ml_RX8_236 sm_yX8_isLong in_RX8 co_yX8_isLong hd_X8_isLong rfl ⟨by omega, by omega⟩ rfl (Nat.le_of_ble_eq_true rfl) ⟨by omega, by omega⟩ dX8_isWhole_51 (fun v51 w51 hp51 => ?_)
      obtain ⟨rfl, hw51⟩ := hp51
      subst hw51
      rw [bL.abs]
      refine g_if_ne (tgt := 112) C dX8_isWhole_54 (by decide) (bI_r _) (fun h54 => ?_) (fun h54 => ?_)
      · exact absurd (bI_f gL) h54
      · refine g_aload C dX8_isWhole_57 rfl ?_
        refine g_callS C (c_X8_isLong _ (x44.2 _ _ eR') ⟨bR.n1, by omega⟩ bR.d) ml_RX8_236 sm_yX8_isLong in_RX8 co_yX8_isLong hd_X8_isLong rfl ⟨by omega, by omega⟩ rfl (Nat.le_of_ble_eq_true rfl) ⟨by omega, by omega⟩ dX8_isWhole_59 (fun v59 w59 hp59 => ?_)
        obtain ⟨rfl, hw59⟩ := hp59
        subst hw59
        rw [bR.abs]
        refine g_if_ne (tgt := 112) C dX8_isWhole_62 (by decide) (bI_r _) (fun h62 => ?_) (fun h62 => ?_)
        · exact absurd (bI_f gR) h62
        · refine g_aload_n C dX8_isWhole_65 rfl ?_
          refine g_get (ci := 10) C rfl inTX8 3 (by decide) fl_RX8_16 rfl hM2.o rfl dX8_isWhole_66 ?_
          refine g_iload_n C dX8_isWhole_69 rfl ?_
          refine g_ialoadN (i) C hM2.p (by omega) (by omega) dX8_isWhole_70 ?_
          refine g_aload_n C dX8_isWhole_71 rfl ?_
          refine g_aload C dX8_isWhole_72 rfl ?_
          refine g_callS C (c_X8_norm _ (c := 4) (x44.2 _ _ eL) (x44.2 _ _ eR') bL bR dL dR (by omega) (by omega)) ml_RX8_188 sm_yX8_norm in_RX8 co_yX8_norm hd_X8_norm rfl ⟨by omega, by omega⟩ rfl (Nat.le_of_ble_eq_true rfl) ⟨by omega, by omega⟩ dX8_isWhole_74 (fun v74 w74 hp74 => ?_)
          obtain ⟨q74, m74, g74, rfl, h74, hb74, hm74, x74, hq74⟩ := hp74
          have s74 := hb74.s
          have sL := bL.s
          have sR := bR.s
          have y74 := x44.tr x74
          have n74 := hb74.n1
          have l1 := bL.n1
          have l2 := bR.n1
          have nz := nrm0 (x := le i) (y := ri i) g1
          refine g_iconst C dX8_isWhole_77 ?_
          refine g_ialoadN (0) C h74 (by omega) (by omega) dX8_isWhole_78 ?_
          have J87 : ∀ s : Int, (s = 1 ∧ le i = 0 ∧ ri i = 0 ∨ s = 0 ∧ ¬ (le i = 0 ∧ ri i = 0)) → G E X 7 87 [some (.ref m), some (iI 1), some (iI (i : Int)), some (.ref q1), some (.ref q2), some (.ref q3), some (iI ((ima p : Nat) : Int))] [iI s, iI 1] w74 (58 * i + 58) (560 * i + 560) := by
            intro s hs'
            have J105 : ∀ s2 : Int, s2 = s → G E X 7 105 [some (.ref m), some (iI 1), some (iI (i : Int)), some (.ref q1), some (.ref q2), some (.ref q3), some (iI ((ima p : Nat) : Int))] [iI s2, iI s, iI 1] w74 (58 * i + 58) (560 * i + 560) := by
              intro s2 hs2
              subst hs2
              refine g_icmp_ne (tgt := 112) C dX8_isWhole_105 (by decide) (by omega) (by omega) (fun h105 => ?_) (fun h105 => ?_)
              · omega
              · refine g_iconst C dX8_isWhole_108 ?_
                refine g_goto (tgt := 113) C dX8_isWhole_109 (by decide) ?_
                refine g_iand (z := 1) C dX8_isWhole_113 (by decide) ?_
                refine g_istore_n C dX8_isWhole_114 (by decide) rfl ?_
                have r3n := x74.2 _ _ r3'
                refine g_iload_n C dX8_isWhole_115 rfl ?_
                refine g_aload C dX8_isWhole_116 rfl ?_
                refine g_iconst C dX8_isWhole_118 ?_
                refine g_ialoadN (1) C r3n (by omega) (by omega) dX8_isWhole_119 ?_
                rw [f1]
                refine g_aload C dX8_isWhole_120 rfl ?_
                refine g_iconst C dX8_isWhole_122 ?_
                refine g_ialoadN (1) C r3n (by omega) (by omega) dX8_isWhole_123 ?_
                rw [f1]
                refine g_imul C dX8_isWhole_124 ?_
                refine g_aload C dX8_isWhole_125 rfl ?_
                refine g_iconst C dX8_isWhole_127 ?_
                refine g_ialoadN (3) C r3n (by omega) (by omega) dX8_isWhole_128 ?_
                rw [f3]
                refine g_aload C dX8_isWhole_129 rfl ?_
                refine g_iconst C dX8_isWhole_131 ?_
                refine g_ialoadN (3) C r3n (by omega) (by omega) dX8_isWhole_132 ?_
                rw [f3]
                refine g_imul C dX8_isWhole_133 ?_
                refine g_iadd C dX8_isWhole_134 ?_
                refine g_aload C dX8_isWhole_135 rfl ?_
                refine g_iconst C dX8_isWhole_137 ?_
                refine g_ialoadN (0) C r3n (by omega) (by omega) dX8_isWhole_138 ?_
                rw [f0]
                refine g_iremN C dX8_isWhole_139 (by omega) (by omega) ?_
                refine g_if_ne (tgt := 194) C dX8_isWhole_140 (by decide) (by omega) (fun h140 => ?_) (fun h140 => ?_)
                · exact absurd v7 h140
                · refine g_iload C dX8_isWhole_143 rfl ?_
                  refine g_iload C dX8_isWhole_145 rfl ?_
                  refine g_imul C dX8_isWhole_147 ?_
                  refine g_iconst C dX8_isWhole_148 ?_
                  refine g_iadd C dX8_isWhole_149 ?_
                  refine g_aload C dX8_isWhole_150 rfl ?_
                  refine g_iconst C dX8_isWhole_152 ?_
                  refine g_ialoadN (0) C r3n (by omega) (by omega) dX8_isWhole_153 ?_
                  rw [f0]
                  refine g_iremN C dX8_isWhole_154 (by omega) (by omega) ?_
                  refine g_if_ne (tgt := 194) C dX8_isWhole_155 (by decide) (by omega) (fun h155 => ?_) (fun h155 => ?_)
                  · exact absurd pI2 h155
                  · refine g_aload C dX8_isWhole_158 rfl ?_
                    refine g_iconst C dX8_isWhole_160 ?_
                    refine g_ialoadN (1) C r3n (by omega) (by omega) dX8_isWhole_161 ?_
                    rw [f1]
                    refine g_aload C dX8_isWhole_162 rfl ?_
                    refine g_iconst C dX8_isWhole_164 ?_
                    refine g_ialoadN (4) C r3n (by omega) (by omega) dX8_isWhole_165 ?_
                    rw [f4]
                    refine g_abs C ml_RX8_196 (by omega) (by omega) (by omega) (Nat.le_of_ble_eq_true rfl) (by omega) dX8_isWhole_166 ?_
                    rw [aB_if]
                    refine g_imul C dX8_isWhole_169 ?_
                    refine g_aload C dX8_isWhole_170 rfl ?_
                    refine g_iconst C dX8_isWhole_172 ?_
                    refine g_ialoadN (2) C r3n (by omega) (by omega) dX8_isWhole_173 ?_
                    rw [f2]
                    refine g_aload C dX8_isWhole_174 rfl ?_
                    refine g_iconst C dX8_isWhole_176 ?_
                    refine g_ialoadN (3) C r3n (by omega) (by omega) dX8_isWhole_177 ?_
                    rw [f3]
                    refine g_abs C ml_RX8_196 (by omega) (by omega) (by omega) (Nat.le_of_ble_eq_true rfl) (by omega) dX8_isWhole_178 ?_
                    rw [aB_if]
                    refine g_imul C dX8_isWhole_181 ?_
                    refine g_iadd C dX8_isWhole_182 ?_
                    refine g_aload C dX8_isWhole_183 rfl ?_
                    refine g_iconst C dX8_isWhole_185 ?_
                    refine g_ialoadN (0) C r3n (by omega) (by omega) dX8_isWhole_186 ?_
                    rw [f0]
                    refine g_icmp_ne (tgt := 194) C dX8_isWhole_187 (by decide) (by omega) (by omega) (fun h187 => ?_) (fun h187 => ?_)
                    · exact absurd v8 h187
                    · refine g_iconst C dX8_isWhole_190 ?_
                      refine g_goto (tgt := 195) C dX8_isWhole_191 (by decide) ?_
                      refine g_iand (z := 1) C dX8_isWhole_195 (by decide) ?_
                      refine g_istore_n C dX8_isWhole_196 (by decide) rfl ?_
                      refine g_iinc C dX8_isWhole_197 rfl (by decide) rfl ?_
                      refine g_goto (tgt := 4) C dX8_isWhole_200 (by decide) ?_
                      refine g_drop 3 (g_drop 4 (g_drop 5 (g_drop 6 ?_)))
                      refine g_widen (k' := 58 * (i + 1)) (n' := 560 * (i + 1)) (by omega) (by omega) ?_
                      exact ih (i + 1, w74) ⟨by dsimp only; omega, xu.tr y74⟩ (by dsimp only; omega)
            refine g_aload_n C dX8_isWhole_87 rfl ?_
            refine g_iconst C dX8_isWhole_88 ?_
            refine g_ialoadN (0) C (x74.2 _ _ (x44.2 _ _ eL)) (by omega) (by omega) dX8_isWhole_89 ?_
            refine g_if_ne (tgt := 104) C dX8_isWhole_90 (by decide) (by omega) (fun h90 => ?_) (fun h90 => ?_)
            · refine g_iconst C dX8_isWhole_104 ?_
              exact J105 _ (by omega)
            · refine g_aload C dX8_isWhole_93 rfl ?_
              refine g_iconst C dX8_isWhole_95 ?_
              refine g_ialoadN (0) C (x74.2 _ _ (x44.2 _ _ eR')) (by omega) (by omega) dX8_isWhole_96 ?_
              refine g_if_ne (tgt := 104) C dX8_isWhole_97 (by decide) (by omega) (fun h97 => ?_) (fun h97 => ?_)
              · refine g_iconst C dX8_isWhole_104 ?_
                exact J105 _ (by omega)
              · refine g_iconst C dX8_isWhole_100 ?_
                refine g_goto (tgt := 105) C dX8_isWhole_101 (by decide) ?_
                exact J105 _ (by omega)
          refine g_widen (k' := 58 * i + 58) (n' := 560 * i + 560) (by omega) (by omega) ?_
          refine g_if_ne (tgt := 86) C dX8_isWhole_79 (by decide) (by omega) (fun h79 => ?_) (fun h79 => ?_)
          · refine g_iconst C dX8_isWhole_86 ?_
            exact J87 _ (by first | (refine Or.inl ⟨rfl, nz.mp ?_⟩; omega) | (refine Or.inr ⟨rfl, fun q => ?_⟩; have := nz.mpr q; omega))
          · refine g_iconst C dX8_isWhole_82 ?_
            refine g_goto (tgt := 87) C dX8_isWhole_83 (by decide) ?_
            exact J87 _ (by first | (refine Or.inl ⟨rfl, nz.mp ?_⟩; omega) | (refine Or.inr ⟨rfl, fun q => ?_⟩; have := nz.mpr q; omega))
set_option maxHeartbeats 4000000 in
set_option maxRecDepth 100000 in
theorem c_X8_isSound (l : Launch) {E : GE} {w : Wd} {τ : Nat → Nat} {m : Nat} {A : MA} {th : Int} {ba st pb le ri : Nat → Int} {sp : Nat → Nat → Int} {ct : Nat → Int} (hM : MSx τ w m A th ba st pb le ri sp ct) (hB : ∀ i, i < 3 → GB (ba i)) (hS : ∀ i, i < 3 → 0 ≤ st i ∧ st i ≤ 24) (hP : HPp pb le ri) (hZ : HZp sp) : Sp E l yX8_isSound cX8_isSound 1 (some .boolean) 8 (174) (1680) [.ref m] w (fun r1 w' => r1 = some (iI 1) ∧ MSx τ w' m A (0) (ba) (st) (pb) (le) (ri) (sp) (ct) ∧ Keep τ w w') := by
  refine sp_intro [some (.ref m)] rfl (Nat.le_of_ble_eq_true rfl) pn_X8 ?_
  intro X C hRm hl hnm hQ
  obtain ⟨hRf, hRl, hRc, hRs⟩ := hRm
  refine g_wf (fun hwf => ?_)
  refine g_aload_n C dX8_isSound_0 rfl ?_
  refine g_iconst C dX8_isSound_1 ?_
  refine g_put (ci := 10) C rfl inTX8 tyX8 tyX8_ok nmX8 0 (by decide) fl_RX8_41 rfl rfl hM.o (Nat.le_of_ble_eq_true rfl) rfl rfl dX8_isSound_2 ?_
  have hM2 := hM.setO 0
  obtain ⟨u0, hu0, hK2⟩ : ∃ u0, u0 = wset w m (true, eO 10 [iI 0, .ref A.1, .ref A.2.1, .ref A.2.2.1, .ref A.2.2.2.1, .ref A.2.2.2.2.1, .ref A.2.2.2.2.2.1, .ref A.2.2.2.2.2.2.1]) ∧ Keep τ w u0 := ⟨_, rfl, Keep.set _ (by have := hM.tg; omega)⟩
  rw [← hu0] at hM2
  refine g_eqw (w' := u0) hu0.symm ?_
  refine g_aload_n C dX8_isSound_5 rfl ?_
  refine g_callV C (c_X8_isWhole _ hM2 hB hS hP hZ) (ci := 10) rfl hM2.o rfl ml_RX8_280 im_yX8_isWhole se_RX8_yX8_isWhole in_RX8 co_yX8_isWhole hd_X8_isWhole rfl ⟨by omega, by omega⟩ rfl (Nat.le_of_ble_eq_true rfl) ⟨by omega, by omega⟩ dX8_isSound_6 (fun v6 w6 hp6 => ?_)
  obtain ⟨rfl, x6⟩ := hp6
  exact g_zreturn C hQ dX8_isSound_9 rfl (by omega) (by omega) ⟨rfl, hM2.ex x6, hK2.tr (Keep.ex x6)⟩
theorem rt3 {ba : Nat → Int} (hB : ∀ i, i < 3 → GB (ba i)) : ∃ rt : Nat → Int, ∀ i, i < 3 → RT (ba i) (rt i) := by
  obtain ⟨r0, h0⟩ := RT_ex (hB 0 (by omega))
  obtain ⟨r1, h1⟩ := RT_ex (hB 1 (by omega))
  obtain ⟨r2, h2⟩ := RT_ex (hB 2 (by omega))
  refine ⟨fun i => if i = 0 then r0 else if i = 1 then r1 else r2, fun i hi => ?_⟩
  rcases (show i = 0 ∨ i = 1 ∨ i = 2 by omega) with q | q | q <;> subst q
  · exact h0
  · exact h1
  · exact h2
/-- the digest's steps -/
def dm6 (b r s x : Int) : Nat → Int
  | 0 => x
  | k + 1 => dm6 b r s x k * 31 + prV b r s (k : Int)
def dmN (b r : Int) (k : Nat) (z : Nat) : Int := if z = 0 then (pq b r 1 r k).1 else if z = 1 then (pq b r 0 1 k).1 else if z = 2 then (pq b r 1 r k).2 else (pq b r 0 1 k).2
def dm4 (b r s x : Int) : Nat → Int
  | 0 => x
  | k + 1 => dm4 b r s x k * 31 + dmN b r s.toNat k
def dmW (b r s x : Int) : Int := (dm4 b r s (dm6 b r s x 6) 4 * 31 + tstV b r s.toNat 1) * 31 + tstV b r s.toNat 2
def dm1 (ba st rt : Nat → Int) : Nat → Int
  | 0 => 7685
  | k + 1 => dmW (ba k) (rt k) (st k) (dm1 ba st rt k)
def dmP (x b l r : Int) : Int := ((((x * 31 + b) * 31 + l) * 31 + r) * 31 + bitV l 0) * 31 + bitV r 0
def dm2 (pb le ri : Nat → Int) (x : Int) : Nat → Int
  | 0 => x
  | k + 1 => dmP (dm2 pb le ri x k) (pb k) (le k) (ri k)
def dmS (f : Nat → Int) (x : Int) : Nat → Int
  | 0 => x
  | k + 1 => dmS f x k * 31 + szV f (k : Int)
def dm3 (sp : Nat → Nat → Int) (x : Int) : Nat → Int
  | 0 => x
  | k + 1 => dmS (sp k) (dm3 sp x k) 8
def dm5 (ct : Nat → Int) (x : Int) : Nat → Int
  | 0 => x
  | k + 1 => dm5 ct x k * 31 + ct k
def dgV (ba st rt pb le ri : Nat → Int) (sp : Nat → Nat → Int) (ct : Nat → Int) : Int := dm5 ct (dm3 sp (dm2 pb le ri (dm1 ba st rt 3) 3) 3) 5 * 31 + 1
theorem prV_i {b r s what : Int} (hb : GB b) (hr : RT b r) (hs : 0 ≤ s ∧ s ≤ 24) (hw : 0 ≤ what ∧ what ≤ 5) : -2147483648 ≤ prV b r s what ∧ prV b r s what < 2147483648 := by
  have h1 := RT_le hb hr
  have h2 := cf_good hb hr (k := s.toNat) (by omega)
  have h3 := hb.i
  unfold prV
  repeat (first | omega | split)
theorem szV_i {f : Nat → Int} {p k : Nat} {what : Int} (h : SpR f p k) (hw : 0 ≤ what ∧ what ≤ 7) : -2147483648 ≤ szV f what ∧ szV f what < 2147483648 := by
  obtain ⟨sv, f0, f1, f2, f3, f4, f5⟩ := h
  have sp5 := sv.p
  obtain ⟨v1, v2, v3, v4, v5, v6, v7, v8, v9⟩ := sv.good
  obtain ⟨w1, -, -⟩ := sv.wit
  have hime : ima p < p := by unfold ima; exact pmN_lt (p := p) (by omega) _
  have aU := (show -(spS p k).2.2.1 ≤ aB (spS p k).2.2.1 ∧ (spS p k).2.2.1 ≤ aB (spS p k).2.2.1 by unfold aB; split <;> omega)
  have aV := (show -(spS p k).2.2.2 ≤ aB (spS p k).2.2.2 ∧ (spS p k).2.2.2 ≤ aB (spS p k).2.2.2 by unfold aB; split <;> omega)
  have ep : (f 0).toNat = p := by rw [f0]; exact Int.toNat_natCast p
  unfold szV
  rw [ep]
  by_cases c0 : what = 0
  · rw [if_pos c0]; omega
  by_cases c1 : what = 1
  · rw [if_neg c0, if_pos c1]; omega
  by_cases c2 : what = 2
  · rw [if_neg c0, if_neg c1, if_pos c2]; omega
  rw [if_neg c0, if_neg c1, if_neg c2]
  have hc : what = 3 ∨ what = 4 ∨ what = 5 ∨ what = 6 ∨ what = 7 := by omega
  rcases hc with rfl | rfl | rfl | rfl | rfl
  · show -2147483648 ≤ f 1 ∧ f 1 < 2147483648; omega
  · show -2147483648 ≤ f 2 ∧ f 2 < 2147483648; omega
  · show -2147483648 ≤ f 3 ∧ f 3 < 2147483648; omega
  · show -2147483648 ≤ f 4 ∧ f 4 < 2147483648; omega
  · show -2147483648 ≤ f 5 ∧ f 5 < 2147483648; omega
set_option maxHeartbeats 4000000 in
set_option maxRecDepth 100000 in
theorem c_X8_digest (l : Launch) {E : GE} {w : Wd} {τ : Nat → Nat} {m : Nat} {A : MA} {th : Int} {ba st pb le ri : Nat → Int} {sp : Nat → Nat → Int} {ct : Nat → Int} (hM : MSx τ w m A th ba st pb le ri sp ct) (hB : ∀ i, i < 3 → GB (ba i)) (hS : ∀ i, i < 3 → 0 ≤ st i ∧ st i ≤ 24) (hP : HPp pb le ri) (hZ : HZp sp) (hC : ∀ i, i < 5 → -2147483648 ≤ ct i ∧ ct i < 2147483648) : Sp E l yX8_digest cX8_digest 6 (some .long) 8 (294) (2700) [.ref m] w (fun r1 w' => ∃ z : Int, r1 = some (jJ z) ∧ MSx τ w' m A (0) (ba) (st) (pb) (le) (ri) (sp) (ct) ∧ Keep τ w w' ∧ ∃ rt : Nat → Int, (∀ i, i < 3 → RT (ba i) (rt i)) ∧ z = dgV ba st rt pb le ri sp ct) := by
  refine sp_intro [some (.ref m), none, none, none, none, none] rfl (Nat.le_of_ble_eq_true rfl) pn_X8 ?_
  intro X C hRm hl hnm hQ
  obtain ⟨hRf, hRl, hRc, hRs⟩ := hRm
  refine g_wf (fun hwf => ?_)
  refine g_aload_n C dX8_digest_0 rfl ?_
  refine g_iconst C dX8_digest_1 ?_
  refine g_put (ci := 10) C rfl inTX8 tyX8 tyX8_ok nmX8 0 (by decide) fl_RX8_41 rfl rfl hM.o (Nat.le_of_ble_eq_true rfl) rfl rfl dX8_digest_2 ?_
  have hM2 := hM.setO 0
  obtain ⟨u0, hu0, hK2⟩ : ∃ u0, u0 = wset w m (true, eO 10 [iI 0, .ref A.1, .ref A.2.1, .ref A.2.2.1, .ref A.2.2.2.1, .ref A.2.2.2.2.1, .ref A.2.2.2.2.2.1, .ref A.2.2.2.2.2.2.1]) ∧ Keep τ w u0 := ⟨_, rfl, Keep.set _ (by have := hM.tg; omega)⟩
  rw [← hu0] at hM2
  refine g_eqw (w' := u0) hu0.symm ?_
  refine g_ldc2 (z := 7685) C kj_RX8_284 (by decide) dX8_digest_5 ?_
  refine g_lstore_n C dX8_digest_8 (by decide) rfl ?_
  refine g_iconst C dX8_digest_9 ?_
  refine g_istore_n C dX8_digest_10 (by decide) rfl ?_
  obtain ⟨rt, hrt⟩ := rt3 hB
  refine g_loop (σ := Nat × Int × Wd) (fun s => s.1 ≤ 3 ∧ s.2.1 = dm1 ba st rt s.1 ∧ Ex u0 s.2.2) (fun s => G E X 6 11 [some (.ref m), some (jJ s.2.1), none, some (iI (s.1 : Int)), none, none] [] s.2.2 (40 * s.1) (340 * s.1)) (fun s => 3 - s.1) ?_ (0, 7685, u0) ⟨by dsimp only; omega, rfl, Ex.rf _⟩
  rintro ⟨i, dd, u⟩ hq ih
  obtain ⟨hi, hdd, xu⟩ := hq
  dsimp only at hi hdd xu ⊢
  have hMu := hM2.ex xu
  refine g_iload_n C dX8_digest_11 rfl ?_
  refine g_iconst C dX8_digest_12 ?_
  refine g_icmp_ge (tgt := 126) C dX8_digest_13 (by decide) (by omega) (by omega) (fun h13 => ?_) (fun h13 => ?_)
  · refine g_widen (k' := 120) (n' := 1020) (by omega) (by omega) ?_
    refine g_iconst C dX8_digest_126 ?_
    refine g_istore_n C dX8_digest_127 (by decide) rfl ?_
    refine g_loop (σ := Nat × Int) (fun s => s.1 ≤ 3 ∧ s.2 = dm2 pb le ri (dm1 ba st rt 3) s.1) (fun s => G E X 6 128 [some (.ref m), some (jJ s.2), none, some (iI (s.1 : Int)), none, none] [] u 120 1020) (fun s => 3 - s.1) ?_ (0, dd) ⟨by dsimp only; omega, by show dd = dm1 ba st rt 3; rw [hdd, show i = 3 by omega]⟩
    rintro ⟨i2, d2⟩ ⟨hi2, hd2⟩ ih4
    dsimp only at hi2 hd2 ⊢
    refine g_iload_n C dX8_digest_128 rfl ?_
    refine g_iconst C dX8_digest_129 ?_
    refine g_icmp_ge (tgt := 217) C dX8_digest_130 (by decide) (by omega) (by omega) (fun h130 => ?_) (fun h130 => ?_)
    · refine g_iconst C dX8_digest_217 ?_
      refine g_istore_n C dX8_digest_218 (by decide) rfl ?_
      refine g_loop (σ := Nat × Int) (fun s => s.1 ≤ 3 ∧ s.2 = dm3 sp (dm2 pb le ri (dm1 ba st rt 3) 3) s.1) (fun s => G E X 6 219 [some (.ref m), some (jJ s.2), none, some (iI (s.1 : Int)), none, none] [] u 120 1020) (fun s => 3 - s.1) ?_ (0, d2) ⟨by dsimp only; omega, by show d2 = dm2 pb le ri (dm1 ba st rt 3) 3; rw [hd2, show i2 = 3 by omega]⟩
      rintro ⟨i3, d3⟩ ⟨hi3, hd3⟩ ih5
      dsimp only at hi3 hd3 ⊢
      refine g_iload_n C dX8_digest_219 rfl ?_
      refine g_iconst C dX8_digest_220 ?_
      refine g_icmp_ge (tgt := 261) C dX8_digest_221 (by decide) (by omega) (by omega) (fun h221 => ?_) (fun h221 => ?_)
      · refine g_iconst C dX8_digest_261 ?_
        refine g_istore_n C dX8_digest_262 (by decide) rfl ?_
        refine g_loop (σ := Nat × Int) (fun s => s.1 ≤ 5 ∧ s.2 = dm5 ct (dm3 sp (dm2 pb le ri (dm1 ba st rt 3) 3) 3) s.1) (fun s => G E X 6 263 [some (.ref m), some (jJ s.2), none, some (iI (s.1 : Int)), none, none] [] u 120 1020) (fun s => 5 - s.1) ?_ (0, d3) ⟨by dsimp only; omega, by show d3 = dm3 sp (dm2 pb le ri (dm1 ba st rt 3) 3) 3; rw [hd3, show i3 = 3 by omega]⟩
        rintro ⟨i5, d5⟩ ⟨hi5, hd5⟩ ih7
        dsimp only at hi5 hd5 ⊢
        refine g_iload_n C dX8_digest_263 rfl ?_
        refine g_iconst C dX8_digest_264 ?_
        refine g_icmp_ge (tgt := 288) C dX8_digest_265 (by decide) (by omega) (by omega) (fun h265 => ?_) (fun h265 => ?_)
        · refine g_lload_n C dX8_digest_288 rfl ?_
          refine g_ldc2 (z := 31) C kj_RX8_286 (by decide) dX8_digest_289 ?_
          refine g_lmul C dX8_digest_292 ?_
          refine g_aload_n C dX8_digest_293 rfl ?_
          refine g_callV C (c_X8_isWhole _ hMu hB hS hP hZ) (ci := 10) rfl hMu.o rfl ml_RX8_280 im_yX8_isWhole se_RX8_yX8_isWhole in_RX8 co_yX8_isWhole hd_X8_isWhole rfl ⟨by omega, by omega⟩ rfl (Nat.le_of_ble_eq_true rfl) ⟨by omega, by omega⟩ dX8_digest_294 (fun v294 w294 hp294 => ?_)
          obtain ⟨rfl, x294⟩ := hp294
          refine g_if_eq (tgt := 304) C dX8_digest_297 (by decide) (by omega) (fun h297 => ?_) (fun h297 => ?_)
          · omega
          · refine g_iconst C dX8_digest_300 ?_
            refine g_goto (tgt := 305) C dX8_digest_301 (by decide) ?_
            refine g_i2l C dX8_digest_305 (by omega) ?_
            refine g_ladd C dX8_digest_306 ?_
            exact g_lreturn C hQ dX8_digest_307 (by omega) (by omega) ⟨_, rfl, (hMu.ex x294), (hK2.tr (Keep.ex xu)).tr (Keep.ex x294), rt, hrt, by rw [hd5, show i5 = 5 by omega]; rfl⟩
        · refine g_lload_n C dX8_digest_268 rfl ?_
          refine g_ldc2 (z := 31) C kj_RX8_286 (by decide) dX8_digest_269 ?_
          refine g_lmul C dX8_digest_272 ?_
          refine g_aload_n C dX8_digest_273 rfl ?_
          refine g_get (ci := 10) C rfl inTX8 7 (by decide) fl_RX8_38 rfl hMu.o rfl dX8_digest_274 ?_
          refine g_iload_n C dX8_digest_277 rfl ?_
          refine g_ialoadN (i5) C hMu.c (by omega) (by omega) dX8_digest_278 ?_
          refine g_i2l C dX8_digest_279 (hC i5 (by omega)) ?_
          refine g_ladd C dX8_digest_280 ?_
          refine g_lstore_n C dX8_digest_281 (by decide) rfl ?_
          refine g_iinc C dX8_digest_282 rfl (by decide) rfl ?_
          refine g_goto (tgt := 263) C dX8_digest_285 (by decide) ?_
          exact ih7 (i5 + 1, _) ⟨by dsimp only; omega, by dsimp only; rw [hd5]; rfl⟩ (by dsimp only; omega)
      · obtain ⟨p, kk, hSp⟩ := hZ i3 (by omega)
        refine g_iconst C dX8_digest_224 ?_
        refine g_istore C dX8_digest_225 (by decide) rfl ?_
        refine g_loop (σ := Nat × Int) (fun s => s.1 ≤ 8 ∧ s.2 = dmS (sp i3) d3 s.1) (fun s => G E X 6 227 [some (.ref m), some (jJ s.2), none, some (iI (i3 : Int)), some (iI (s.1 : Int)), none] [] u 120 1020) (fun s => 8 - s.1) ?_ (0, d3) ⟨by dsimp only; omega, rfl⟩
        rintro ⟨c4, d4⟩ ⟨hc4, hd4⟩ ih6
        dsimp only at hc4 hd4 ⊢
        refine g_iload C dX8_digest_227 rfl ?_
        refine g_bipush C dX8_digest_229 (by decide) ?_
        refine g_icmp_ge (tgt := 255) C dX8_digest_231 (by decide) (by omega) (by omega) (fun h231 => ?_) (fun h231 => ?_)
        · refine g_iinc C dX8_digest_255 rfl (by decide) rfl ?_
          refine g_goto (tgt := 219) C dX8_digest_258 (by decide) ?_
          refine g_drop 4 ?_
          exact ih5 (i3 + 1, _) ⟨by dsimp only; omega, by dsimp only; rw [hd4, show c4 = 8 by omega, hd3]; rfl⟩ (by dsimp only; omega)
        · refine g_lload_n C dX8_digest_234 rfl ?_
          refine g_ldc2 (z := 31) C kj_RX8_286 (by decide) dX8_digest_235 ?_
          refine g_lmul C dX8_digest_238 ?_
          refine g_aload_n C dX8_digest_239 rfl ?_
          refine g_iload_n C dX8_digest_240 rfl ?_
          refine g_iload C dX8_digest_241 rfl ?_
          refine g_callV C (c_X8_splitOf _ hMu (i := i3) (p := p) (k := kk) (what := (c4 : Int)) (by omega) (by omega) hSp) (ci := 10) rfl hMu.o rfl ml_RX8_271 im_yX8_splitOf se_RX8_yX8_splitOf in_RX8 co_yX8_splitOf hd_X8_splitOf rfl ⟨by omega, by omega⟩ rfl (Nat.le_of_ble_eq_true rfl) ⟨by omega, by omega⟩ dX8_digest_243 (fun v243 w243 hp243 => ?_)
          obtain ⟨rfl, hw243⟩ := hp243
          subst w243
          refine g_i2l C dX8_digest_246 (szV_i hSp (by omega)) ?_
          refine g_ladd C dX8_digest_247 ?_
          refine g_lstore_n C dX8_digest_248 (by decide) rfl ?_
          refine g_iinc C dX8_digest_249 rfl (by decide) rfl ?_
          refine g_goto (tgt := 227) C dX8_digest_252 (by decide) ?_
          exact ih6 (c4 + 1, _) ⟨by dsimp only; omega, by dsimp only; rw [hd4]; rfl⟩ (by dsimp only; omega)
    · have hi3 : i2 < 3 := by omega
      obtain ⟨g1, gL, gR⟩ := hP i2 hi3
      have g11 := g1.i
      obtain ⟨q1, hq1, tq1, r1⟩ := hMu.L hi3
      obtain ⟨q2, hq2, tq2, r2⟩ := hMu.R hi3
      obtain ⟨nL, fL, eL, bL, dL⟩ := id r1
      obtain ⟨nR, fR, eR', bR, dR⟩ := id r2
      refine g_lload_n C dX8_digest_133 rfl ?_
      refine g_ldc2 (z := 31) C kj_RX8_286 (by decide) dX8_digest_134 ?_
      refine g_lmul C dX8_digest_137 ?_
      refine g_aload_n C dX8_digest_138 rfl ?_
      refine g_get (ci := 10) C rfl inTX8 3 (by decide) fl_RX8_16 rfl hMu.o rfl dX8_digest_139 ?_
      refine g_iload_n C dX8_digest_142 rfl ?_
      refine g_ialoadN (i2) C hMu.p (by omega) (by omega) dX8_digest_143 ?_
      refine g_i2l C dX8_digest_144 (by omega) ?_
      refine g_ladd C dX8_digest_145 ?_
      refine g_lstore_n C dX8_digest_146 (by decide) rfl ?_
      refine g_lload_n C dX8_digest_147 rfl ?_
      refine g_ldc2 (z := 31) C kj_RX8_286 (by decide) dX8_digest_148 ?_
      refine g_lmul C dX8_digest_151 ?_
      refine g_aload_n C dX8_digest_152 rfl ?_
      refine g_get (ci := 10) C rfl inTX8 4 (by decide) fl_RX8_24 rfl hMu.o rfl dX8_digest_153 ?_
      refine g_iload_n C dX8_digest_156 rfl ?_
      refine g_aaloadN (i2) C rfl rfl hMu.l (by omega) (by omega) hq1 dX8_digest_157 ?_
      refine g_callS C (c_X8_last _ eL bL (by omega)) ml_RX8_181 sm_yX8_last in_RX8 co_yX8_last hd_X8_last rfl ⟨by omega, by omega⟩ rfl (Nat.le_of_ble_eq_true rfl) ⟨by omega, by omega⟩ dX8_digest_158 (fun v158 w158 hp158 => ?_)
      obtain ⟨rfl, hw158⟩ := hp158
      subst w158
      refine g_ladd C dX8_digest_161 ?_
      refine g_ldc2 (z := 31) C kj_RX8_286 (by decide) dX8_digest_162 ?_
      refine g_lmul C dX8_digest_165 ?_
      refine g_aload_n C dX8_digest_166 rfl ?_
      refine g_get (ci := 10) C rfl inTX8 5 (by decide) fl_RX8_28 rfl hMu.o rfl dX8_digest_167 ?_
      refine g_iload_n C dX8_digest_170 rfl ?_
      refine g_aaloadN (i2) C rfl rfl hMu.r (by omega) (by omega) hq2 dX8_digest_171 ?_
      refine g_callS C (c_X8_last _ eR' bR (by omega)) ml_RX8_181 sm_yX8_last in_RX8 co_yX8_last hd_X8_last rfl ⟨by omega, by omega⟩ rfl (Nat.le_of_ble_eq_true rfl) ⟨by omega, by omega⟩ dX8_digest_172 (fun v172 w172 hp172 => ?_)
      obtain ⟨rfl, hw172⟩ := hp172
      subst w172
      refine g_ladd C dX8_digest_175 ?_
      refine g_lstore_n C dX8_digest_176 (by decide) rfl ?_
      refine g_lload_n C dX8_digest_177 rfl ?_
      refine g_ldc2 (z := 31) C kj_RX8_286 (by decide) dX8_digest_178 ?_
      refine g_lmul C dX8_digest_181 ?_
      refine g_aload_n C dX8_digest_182 rfl ?_
      refine g_get (ci := 10) C rfl inTX8 4 (by decide) fl_RX8_24 rfl hMu.o rfl dX8_digest_183 ?_
      refine g_iload_n C dX8_digest_186 rfl ?_
      refine g_aaloadN (i2) C rfl rfl hMu.l (by omega) (by omega) hq1 dX8_digest_187 ?_
      refine g_iconst C dX8_digest_188 ?_
      refine g_callS C (c_X8_bits _ eL ⟨bL.n1, by omega⟩ bL.d (what := 0) (by omega)) ml_RX8_121 sm_yX8_bits in_RX8 co_yX8_bits hd_X8_bits rfl ⟨by omega, by omega⟩ rfl (Nat.le_of_ble_eq_true rfl) ⟨by omega, by omega⟩ dX8_digest_189 (fun v189 w189 hp189 => ?_)
      obtain ⟨rfl, hw189⟩ := hp189
      subst w189
      have hh1 := hiB_r (mg fL nL) (30 * (nL - 1))
      rw [if_pos rfl]
      show G E X 6 192 _ (iI (hiB (mg fL nL) (30 * (nL - 1)) + 1) :: _) _ _ _
      have eb1 := bitV_of (cap := 5) bL (by omega) (what := 0)
      rw [if_pos rfl] at eb1
      rw [eb1]
      refine g_i2l C dX8_digest_192 (by omega) ?_
      refine g_ladd C dX8_digest_193 ?_
      refine g_ldc2 (z := 31) C kj_RX8_286 (by decide) dX8_digest_194 ?_
      refine g_lmul C dX8_digest_197 ?_
      refine g_aload_n C dX8_digest_198 rfl ?_
      refine g_get (ci := 10) C rfl inTX8 5 (by decide) fl_RX8_28 rfl hMu.o rfl dX8_digest_199 ?_
      refine g_iload_n C dX8_digest_202 rfl ?_
      refine g_aaloadN (i2) C rfl rfl hMu.r (by omega) (by omega) hq2 dX8_digest_203 ?_
      refine g_iconst C dX8_digest_204 ?_
      refine g_callS C (c_X8_bits _ eR' ⟨bR.n1, by omega⟩ bR.d (what := 0) (by omega)) ml_RX8_121 sm_yX8_bits in_RX8 co_yX8_bits hd_X8_bits rfl ⟨by omega, by omega⟩ rfl (Nat.le_of_ble_eq_true rfl) ⟨by omega, by omega⟩ dX8_digest_205 (fun v205 w205 hp205 => ?_)
      obtain ⟨rfl, hw205⟩ := hp205
      subst w205
      have hh2 := hiB_r (mg fR nR) (30 * (nR - 1))
      rw [if_pos rfl]
      show G E X 6 208 _ (iI (hiB (mg fR nR) (30 * (nR - 1)) + 1) :: _) _ _ _
      have eb2 := bitV_of (cap := 5) bR (by omega) (what := 0)
      rw [if_pos rfl] at eb2
      rw [eb2]
      refine g_i2l C dX8_digest_208 (by omega) ?_
      refine g_ladd C dX8_digest_209 ?_
      refine g_lstore_n C dX8_digest_210 (by decide) rfl ?_
      refine g_iinc C dX8_digest_211 rfl (by decide) rfl ?_
      refine g_goto (tgt := 128) C dX8_digest_214 (by decide) ?_
      exact ih4 (i2 + 1, _) ⟨by dsimp only; omega, by dsimp only; rw [hd2]; rfl⟩ (by dsimp only; omega)
  · have hi3 : i < 3 := by omega
    have gb := hB i hi3
    have gs := hS i hi3
    have gb1 := gb.i
    obtain ⟨r, er⟩ : ∃ r, r = rt i := ⟨_, rfl⟩
    have hr : RT (ba i) r := by rw [er]; exact hrt i hi3
    refine g_iconst C dX8_digest_16 ?_
    refine g_istore C dX8_digest_17 (by decide) rfl ?_
    refine g_loop (σ := Nat × Int × Wd) (fun s => s.1 ≤ 6 ∧ s.2.1 = dm6 (ba i) r (st i) dd s.1 ∧ Ex u s.2.2) (fun s => G E X 6 19 [some (.ref m), some (jJ s.2.1), none, some (iI (i : Int)), some (iI (s.1 : Int)), none] [] s.2.2 (40 * i + s.1) (340 * i + 3 * s.1)) (fun s => 6 - s.1) ?_ (0, dd, u) ⟨by dsimp only; omega, rfl, Ex.rf _⟩
    rintro ⟨j, de, u1⟩ hq ih1
    obtain ⟨hj, hde, xu1⟩ := hq
    dsimp only at hj hde xu1 ⊢
    have hMu1 := hMu.ex xu1
    refine g_iload C dX8_digest_19 rfl ?_
    refine g_bipush C dX8_digest_21 (by decide) ?_
    refine g_icmp_ge (tgt := 47) C dX8_digest_23 (by decide) (by omega) (by omega) (fun h23 => ?_) (fun h23 => ?_)
    · refine g_widen (k' := 40 * i + 6) (n' := 340 * i + 18) (by omega) (by omega) ?_
      refine g_aload_n C dX8_digest_47 rfl ?_
      refine g_iload_n C dX8_digest_48 rfl ?_
      refine g_callV C (c_X8_at _ hMu1 (i := i) (r := r) hi3 gb hr gs) (ci := 10) rfl hMu1.o rfl ml_RX8_167 im_yX8_at se_RX8_yX8_at in_RX8 co_yX8_at hd_X8_at rfl ⟨by omega, by omega⟩ rfl (Nat.le_of_ble_eq_true rfl) ⟨by omega, by omega⟩ dX8_digest_49 (fun v49 w49 hp49 => ?_)
      obtain ⟨q, rfl, hR, x49, hq⟩ := hp49
      obtain ⟨R, a0, a1, a2, a3, hR0, k0, k1, k2, k3, l0, l1, l2, l3, -⟩ := id hR
      have hMu2 := hMu1.ex x49
      refine g_astore C dX8_digest_52 (by decide) rfl ?_
      refine g_iconst C dX8_digest_54 ?_
      refine g_istore C dX8_digest_55 (by decide) rfl ?_
      refine g_loop (σ := Nat × Int) (fun s => s.1 ≤ 4 ∧ s.2 = dm4 (ba i) r (st i) de s.1) (fun s => G E X 6 57 [some (.ref m), some (jJ s.2), none, some (iI (i : Int)), some (.ref q), some (iI (s.1 : Int))] [] w49 (40 * i + 16) (340 * i + 66)) (fun s => 4 - s.1) ?_ (0, de) ⟨by dsimp only; omega, rfl⟩
      rintro ⟨c, df⟩ ⟨hc, hdf⟩ ih2
      dsimp only at hc hdf ⊢
      refine g_iload C dX8_digest_57 rfl ?_
      refine g_iconst C dX8_digest_59 ?_
      refine g_icmp_ge (tgt := 84) C dX8_digest_60 (by decide) (by omega) (by omega) (fun h60 => ?_) (fun h60 => ?_)
      · refine g_iconst C dX8_digest_84 ?_
        refine g_istore C dX8_digest_85 (by decide) rfl ?_
        refine g_loop (σ := Nat × Int × Wd) (fun s => 1 ≤ s.1 ∧ s.1 ≤ 3 ∧ (s.1 = 1 ∧ s.2.1 = df ∨ s.1 = 2 ∧ s.2.1 = df * 31 + tstV (ba i) r (st i).toNat 1 ∨ s.1 = 3 ∧ s.2.1 = (df * 31 + tstV (ba i) r (st i).toNat 1) * 31 + tstV (ba i) r (st i).toNat 2) ∧ Ex w49 s.2.2) (fun s => G E X 6 87 [some (.ref m), some (jJ s.2.1), none, some (iI (i : Int)), some (.ref q), some (iI (s.1 : Int))] [] s.2.2 (40 * i + 5 + 11 * s.1) (340 * i + 124 * (s.1 - 1) + 66)) (fun s => 3 - s.1) ?_ (1, df, w49) ⟨by dsimp only; omega, by dsimp only; omega, Or.inl ⟨rfl, rfl⟩, Ex.rf _⟩
        rintro ⟨c2, dg, u3⟩ hq ih3
        obtain ⟨hc1, hc2, hdg, xu3⟩ := hq
        dsimp only at hc1 hc2 hdg xu3 ⊢
        have hMu3 := hMu2.ex xu3
        refine g_iload C dX8_digest_87 rfl ?_
        refine g_iconst C dX8_digest_89 ?_
        refine g_icmp_ge (tgt := 120) C dX8_digest_90 (by decide) (by omega) (by omega) (fun h90 => ?_) (fun h90 => ?_)
        · refine g_iinc C dX8_digest_120 rfl (by decide) rfl ?_
          refine g_goto (tgt := 11) C dX8_digest_123 (by decide) ?_
          refine g_drop 4 (g_drop 5 ?_)
          refine g_widen (k' := 40 * (i + 1)) (n' := 340 * (i + 1)) (by omega) (by omega) ?_
          exact ih (i + 1, _, u3) ⟨by dsimp only; omega, (by
            dsimp only
            have hc4 : c = 4 := by omega
            have hj6 : j = 6 := by omega
            rcases hdg with ⟨q1, q2⟩ | ⟨q1, q2⟩ | ⟨q1, q2⟩
            · omega
            · omega
            · rw [q2, hdf, hc4, hde, hj6, hdd, er]; rfl), ((xu.tr xu1).tr x49).tr xu3⟩ (by dsimp only; omega)
        · refine g_lload_n C dX8_digest_93 rfl ?_
          refine g_ldc2 (z := 31) C kj_RX8_286 (by decide) dX8_digest_94 ?_
          refine g_lmul C dX8_digest_97 ?_
          refine g_aload_n C dX8_digest_98 rfl ?_
          refine g_get (ci := 10) C rfl inTX8 1 (by decide) fl_RX8_9 rfl hMu3.o rfl dX8_digest_99 ?_
          refine g_iload_n C dX8_digest_102 rfl ?_
          refine g_ialoadN (i) C hMu3.b (by omega) (by omega) dX8_digest_103 ?_
          refine g_aload C dX8_digest_104 rfl ?_
          refine g_iload C dX8_digest_106 rfl ?_
          refine g_callS C (c_X8_tested _ (what := (c2 : Int)) gb hr (by omega) (hR.ex xu3) (by omega)) ml_RX8_192 sm_yX8_tested in_RX8 co_yX8_tested hd_X8_tested rfl ⟨by omega, by omega⟩ rfl (Nat.le_of_ble_eq_true rfl) ⟨by omega, by omega⟩ dX8_digest_108 (fun v108 w108 hp108 => ?_)
          obtain ⟨rfl, x108⟩ := hp108
          have htr := tst_r gb hr (k := (st i).toNat) (by omega) (c2 : Int)
          refine g_i2l C dX8_digest_111 (by omega) ?_
          refine g_ladd C dX8_digest_112 ?_
          refine g_lstore_n C dX8_digest_113 (by decide) rfl ?_
          refine g_iinc C dX8_digest_114 rfl (by decide) rfl ?_
          refine g_goto (tgt := 87) C dX8_digest_117 (by decide) ?_
          refine g_widen (k' := 40 * i + 5 + 11 * (c2 + 1)) (n' := 340 * i + 124 * (c2 + 1 - 1) + 66) (by omega) (by omega) ?_
          exact ih3 (c2 + 1, _, w108) ⟨by dsimp only; omega, by dsimp only; omega, (by
            dsimp only
            rcases hdg with ⟨q1, q2⟩ | ⟨q1, q2⟩ | ⟨q1, q2⟩
            · subst q1; rw [q2]; exact Or.inr (Or.inl ⟨rfl, rfl⟩)
            · subst q1; rw [q2]; exact Or.inr (Or.inr ⟨rfl, rfl⟩)
            · omega), xu3.tr x108⟩ (by dsimp only; omega)
      · refine g_lload_n C dX8_digest_63 rfl ?_
        refine g_ldc2 (z := 31) C kj_RX8_286 (by decide) dX8_digest_64 ?_
        refine g_lmul C dX8_digest_67 ?_
        refine g_aload C dX8_digest_68 rfl ?_
        refine g_iload C dX8_digest_70 rfl ?_
        have hrow : ∃ (a n : Nat) (f : Nat → Int) (z : Int), R c = some a ∧ w49.2 a = some (true, eI n f) ∧ BN f n z ∧ n ≤ 5 ∧ z = dmN (ba i) r (st i).toNat c := by
          have hc4 : c = 0 ∨ c = 1 ∨ c = 2 ∨ c = 3 := by omega
          rcases hc4 with rfl | rfl | rfl | rfl
          · obtain ⟨n, f, e, b, d⟩ := l0; exact ⟨a0, n, f, _, k0, e, b, d, rfl⟩
          · obtain ⟨n, f, e, b, d⟩ := l1; exact ⟨a1, n, f, _, k1, e, b, d, rfl⟩
          · obtain ⟨n, f, e, b, d⟩ := l2; exact ⟨a2, n, f, _, k2, e, b, d, rfl⟩
          · obtain ⟨n, f, e, b, d⟩ := l3; exact ⟨a3, n, f, _, k3, e, b, d, rfl⟩
        obtain ⟨ac, nc, fc, zc, hRc', ec, bc, dc, ezc⟩ := hrow
        refine g_aaloadN (c) C rfl rfl hR0 (by omega) (by omega) hRc' dX8_digest_72 ?_
        refine g_callS C (c_X8_last _ ec bc (by omega)) ml_RX8_181 sm_yX8_last in_RX8 co_yX8_last hd_X8_last rfl ⟨by omega, by omega⟩ rfl (Nat.le_of_ble_eq_true rfl) ⟨by omega, by omega⟩ dX8_digest_73 (fun v73 w73 hp73 => ?_)
        obtain ⟨rfl, hw73⟩ := hp73
        subst w73
        refine g_ladd C dX8_digest_76 ?_
        refine g_lstore_n C dX8_digest_77 (by decide) rfl ?_
        refine g_iinc C dX8_digest_78 rfl (by decide) rfl ?_
        refine g_goto (tgt := 57) C dX8_digest_81 (by decide) ?_
        exact ih2 (c + 1, _) ⟨by dsimp only; omega, by dsimp only; rw [hdf, ezc]; rfl⟩ (by dsimp only; omega)
    · refine g_lload_n C dX8_digest_26 rfl ?_
      refine g_ldc2 (z := 31) C kj_RX8_286 (by decide) dX8_digest_27 ?_
      refine g_lmul C dX8_digest_30 ?_
      refine g_aload_n C dX8_digest_31 rfl ?_
      refine g_iload_n C dX8_digest_32 rfl ?_
      refine g_iload C dX8_digest_33 rfl ?_
      refine g_callV C (c_X8_partOf _ hMu1 (i := i) (what := (j : Int)) hi3 (by omega) gb hr gs) (ci := 10) rfl hMu1.o rfl ml_RX8_162 im_yX8_partOf se_RX8_yX8_partOf in_RX8 co_yX8_partOf hd_X8_partOf rfl ⟨by omega, by omega⟩ rfl (Nat.le_of_ble_eq_true rfl) ⟨by omega, by omega⟩ dX8_digest_35 (fun v35 w35 hp35 => ?_)
      obtain ⟨rfl, x35⟩ := hp35
      refine g_i2l C dX8_digest_38 (prV_i gb hr gs (by omega)) ?_
      refine g_ladd C dX8_digest_39 ?_
      refine g_lstore_n C dX8_digest_40 (by decide) rfl ?_
      refine g_iinc C dX8_digest_41 rfl (by decide) rfl ?_
      refine g_goto (tgt := 19) C dX8_digest_44 (by decide) ?_
      exact ih1 (j + 1, _, w35) ⟨by dsimp only; omega, by dsimp only; rw [hde]; rfl, xu1.tr x35⟩ (by dsimp only; omega)
