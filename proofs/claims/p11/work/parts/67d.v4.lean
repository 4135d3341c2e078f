/-! products and shifts of the class's numbers -/
theorem prod_step {B : Int} {h H g2 : Nat → Int} {i j : Nat} {a c s : Int} (e : nv B h (i + j) + c * B ^ (i + j) = nv B H (i + j) + a * (nv B g2 j * B ^ i)) (hs : s = c + (H (i + j) + a * g2 j)) : nv B (iup h (i + j) (s % B)) (i + (j + 1)) + s / B * B ^ (i + (j + 1)) = nv B H (i + (j + 1)) + a * (nv B g2 (j + 1) * B ^ i) := by
  rw [show i + (j + 1) = i + j + 1 by omega, nv_up_succ, nv_succ, nv_succ, Int.pow_succ]
  have e2 : s = B * (s / B) + s % B := (Int.mul_ediv_add_emod s B).symm
  have e3 : B ^ (i + j) = B ^ j * B ^ i := by rw [Int.pow_add, Int.mul_comm]
  generalize s / B = q at e2 ⊢
  generalize s % B = r at e2 ⊢
  rw [e3] at e ⊢
  generalize B ^ i = x at *
  generalize B ^ j = y at *
  grind
theorem prod_full {f g : Nat → Int} {u v : Nat} (hf : Wr f u) (hg : Wr g v) {i j : Nat} (hi : i < u) (hij : i + j = 18) (hbd : V18 f * V18 g < B28 ^ 18) : f i * (V18 g - nv B28 g j) = 0 ∧ nv B28 f i * V18 g + f i * (nv B28 g j * B28 ^ i) < B28 ^ 18 := by
  have hu18 := hf.2.1
  have hfi := hf.1 i (by omega)
  have hsp := nv_split (B := B28) (f := g) j (18 - j)
  rw [show j + (18 - j) = 18 by omega] at hsp
  have hr0 : 0 ≤ nv B28 (fun k => g (j + k)) (18 - j) := nv_nonneg (by decide) (fun k hk => hg.1 (j + k) (by omega))
  have hgv : V18 g = nv B28 g j + B28 ^ j * nv B28 (fun k => g (j + k)) (18 - j) := hsp
  generalize nv B28 (fun k => g (j + k)) (18 - j) = y at hr0 hgv
  have hj0 : 0 ≤ nv B28 g j := nv_nonneg (by decide) (hg.1.dg (by omega))
  have hfs := nv_split (B := B28) (f := f) (i + 1) (17 - i)
  rw [show i + 1 + (17 - i) = 18 by omega, nv_succ] at hfs
  have hfr : 0 ≤ nv B28 (fun k => f (i + 1 + k)) (17 - i) := nv_nonneg (by decide) (fun k hk => hf.1 (i + 1 + k) (by omega))
  have hfv : V18 f = nv B28 f i + f i * B28 ^ i + B28 ^ (i + 1) * nv B28 (fun k => f (i + 1 + k)) (17 - i) := hfs
  have hfi0 : 0 ≤ nv B28 f i := nv_nonneg (by decide) (hf.1.dg (by omega))
  have hg0 := V18_0 hg.1
  have pi := pw_pos (B := B28) (by decide) i
  have pj := pw_pos (B := B28) (by decide) j
  have pi1 := pw_pos (B := B28) (by decide) (i + 1)
  have e18 : B28 ^ 18 = B28 ^ i * B28 ^ j := by rw [← Int.pow_add, hij]
  have t0 : 0 ≤ B28 ^ (i + 1) * nv B28 (fun k => f (i + 1 + k)) (17 - i) * V18 g := Int.mul_nonneg (Int.mul_nonneg (Int.le_of_lt pi1) hfr) hg0
  have t1 : (nv B28 f i + f i * B28 ^ i) * V18 g ≤ V18 f * V18 g := by
    rw [hfv, Int.add_mul (nv B28 f i + f i * B28 ^ i)]; omega
  have t2 : 0 ≤ nv B28 f i * V18 g := Int.mul_nonneg hfi0 hg0
  have t3 : (nv B28 f i + f i * B28 ^ i) * V18 g = nv B28 f i * V18 g + f i * (nv B28 g j * B28 ^ i) + f i * y * (B28 ^ i * B28 ^ j) := by
    generalize V18 f = vf at *
    generalize nv B28 f i = nf at *
    generalize nv B28 g j = ng at *
    rw [hgv]
    generalize B28 ^ i = x at *
    generalize B28 ^ j = z at *
    grind
  have t4 : 0 ≤ f i * (nv B28 g j * B28 ^ i) := Int.mul_nonneg hfi.1 (Int.mul_nonneg hj0 (Int.le_of_lt pi))
  have t5 : 0 ≤ f i * y := Int.mul_nonneg hfi.1 hr0
  rw [← e18] at t3
  have p18 : 0 < B28 ^ 18 := pw_pos (by decide) 18
  have t6 : f i * y = 0 := by
    rcases Int.lt_or_le 0 (f i * y) with q | q
    · have := Int.mul_le_mul_of_nonneg_right (show 1 ≤ f i * y by omega) (Int.le_of_lt p18)
      rw [Int.one_mul] at this
      omega
    · omega
  refine ⟨?_, by rw [t6, Int.zero_mul] at t3; omega⟩
  rw [hgv, show nv B28 g j + B28 ^ j * y - nv B28 g j = B28 ^ j * y by omega, Int.mul_left_comm, t6, Int.mul_zero]
theorem prod_row {f g H h : Nat → Int} {u v i j : Nat} {c : Int} (hf : Wr f u) (hg : Wr g v) (hi : i < u) (hH : V18 H = nv B28 f i * V18 g) (hHz : ∀ k, i + v ≤ k → k < 18 → H k = 0) (hdh : DC h) (hhi : ∀ k, i + j ≤ k → h k = H k) (hij : i + j ≤ 18) (hend : i + j = 18 ∨ v < j) (hc : 0 ≤ c) (hcz : v < j → c = 0) (e : nv B28 h (i + j) + c * B28 ^ (i + j) = nv B28 H (i + j) + f i * (nv B28 g j * B28 ^ i)) (hbd : V18 f * V18 g < B28 ^ 18) : V18 h = nv B28 f (i + 1) * V18 g := by
  have hu := hf.2.1
  have pi := pw_pos (B := B28) (by decide) i
  rw [nv_succ, Int.add_mul, ← hH]
  rcases Nat.lt_or_ge v j with q | q
  · rw [hcz q, Int.zero_mul, Int.add_zero] at e
    have e1 : V18 h = nv B28 h (i + j) := nv_zeros (by omega) (fun k h1 h2 => by rw [hhi k h1]; exact hHz k (by omega) h2)
    have e2 : V18 H = nv B28 H (i + j) := nv_zeros (by omega) (fun k h1 h2 => hHz k (by omega) h2)
    have e3 : V18 g = nv B28 g j := nv_zeros (by omega) (fun k h1 h2 => hg.2.2.1 k (by omega) h2)
    rw [e1, e, e2, e3, Int.mul_assoc, Int.mul_comm (B28 ^ i)]
  · have hj : i + j = 18 := by omega
    obtain ⟨z1, z2⟩ := prod_full hf hg hi hj hbd
    have e1 : V18 h = nv B28 h (i + j) := by rw [hj]; rfl
    have e2 : V18 H = nv B28 H (i + j) := by rw [hj]; rfl
    rw [← e1, ← e2, hj] at e
    have h0 := V18_0 hdh
    have p18 : 0 < B28 ^ 18 := pw_pos (by decide) 18
    have hc0 : c = 0 := by
      rcases Int.lt_or_le 0 c with r | r
      · have := Int.mul_le_mul_of_nonneg_right (show 1 ≤ c by omega) (Int.le_of_lt p18)
        rw [Int.one_mul] at this
        rw [hH] at e
        omega
      · omega
    rw [hc0, Int.zero_mul, Int.add_zero] at e
    rw [e]
    have : f i * B28 ^ i * V18 g = f i * (nv B28 g j * B28 ^ i) := by
      have e9 : f i * V18 g = f i * nv B28 g j := by rw [Int.mul_sub] at z1; omega
      rw [Int.mul_right_comm, e9, Int.mul_assoc]
    rw [this]
set_option maxHeartbeats 4000000 in
set_option maxRecDepth 100000 in
theorem v_X5_setProduct (l : Launch) {E : GE} {w : Wd} {a r b s c t : Nat} {z1 z2 : Int} (h1 : WS w a r) (h2 : WA w b s z1) (h3 : WA w c t z2) (hrs : r ≠ s) (hrt : r ≠ t) (hab : a ≠ b) (hac : a ≠ c) (hbd : aB z1 * aB z2 < B28 ^ 18) : Sp E l yX5_setProduct cX5_setProduct 8 none 2 (0) (0) [.ref a, .ref b, .ref c] w (fun r' w' => r' = none ∧ WA w' a r (z1 * z2) ∧ FrW w w' a r) := by
  refine sp_intro [some (.ref a), some (.ref b), some (.ref c), none, none, none, none, none] rfl (Nat.le_of_ble_eq_true rfl) pn_X5 ?_
  intro X C hRm hl hnm hQ
  obtain ⟨hRf, hRl, hRc, hRs⟩ := hRm
  refine g_wf (fun hwf => ?_)
  have hB28 : B28 = 268435456 := rfl
  obtain ⟨f, u, bl, hO, hR, -, -, -⟩ := id h1
  obtain ⟨g, v, bm, k2, n2⟩ := h2.ra
  obtain ⟨g2, v2, bn, k3, n3⟩ := h3.ra
  obtain ⟨hO2, hR2, hg, hbm⟩ := id k2
  obtain ⟨hO3, hR3, hg2, hbn⟩ := id k3
  have hv18 := hg.2.1
  have hv28 := hg2.2.1
  rw [n2.ab.1, n3.ab.1] at hbd
  have hne := oI_ne hO hR
  have has := oI_ne hO hR2
  have hat := oI_ne hO hR3
  have hbr := oI_ne hO2 hR
  have hcr := oI_ne hO3 hR
  have sg1 := n2.ab.2
  have sg2 := n3.ab.2
  obtain ⟨e, he1, he2, he3⟩ := mn18 (v + v2)
  refine g_aload_n C dX5_setProduct_0 rfl ?_
  refine g_callV C (c_X5_clear _ hO hR) (ci := 7) rfl hO rfl ml_RX5_25 im_yX5_clear se_RX5_yX5_clear in_RX5 co_yX5_clear hd_X5_clear rfl ⟨by omega, by omega⟩ rfl (Nat.le_of_ble_eq_true rfl) ⟨by omega, by omega⟩ dX5_setProduct_1 (fun v1 w1 hp1 => ?_)
  obtain ⟨rfl, g1, hO1, hR1, hg1, fr1⟩ := hp1
  have kB : w1.2 b = some (true, oW s v bm) := by rw [fr1.2 b (Ne.symm hab) hbr]; exact hO2
  have kC : w1.2 c = some (true, oW t v2 bn) := by rw [fr1.2 c (Ne.symm hac) hcr]; exact hO3
  have kS : w1.2 s = some (true, eI 18 g) := by rw [fr1.2 s (Ne.symm has) (Ne.symm hrs)]; exact hR2
  have kT : w1.2 t = some (true, eI 18 g2) := by rw [fr1.2 t (Ne.symm hat) (Ne.symm hrt)]; exact hR3
  refine g_bipush C dX5_setProduct_4 (by decide) ?_
  refine g_aload_n C dX5_setProduct_6 rfl ?_
  refine g_get (ci := 7) C rfl inTX5 1 (by decide) fl_RX5_17 rfl kB rfl dX5_setProduct_7 ?_
  refine g_aload_n C dX5_setProduct_10 rfl ?_
  refine g_get (ci := 7) C rfl inTX5 1 (by decide) fl_RX5_17 rfl kC rfl dX5_setProduct_11 ?_
  refine g_iadd C dX5_setProduct_14 ?_
  rw [show (v : Int) + (v2 : Int) = ((v + v2 : Nat) : Int) by omega]
  refine g_min C ml_RX5_66 (by omega) (by omega) (by omega) (by omega) (Nat.le_of_ble_eq_true rfl) (by omega) dX5_setProduct_15 ?_
  rw [he3]
  refine g_istore_n C dX5_setProduct_18 (by decide) rfl ?_
  refine g_iconst C dX5_setProduct_19 ?_
  refine g_istore C dX5_setProduct_20 (by decide) rfl ?_
  suffices hh : G E X 8 22 [some (.ref a), some (.ref b), some (.ref c), some (iI (e : Int)), some (iI ((0 : Nat) : Int)), none, none, none] [] (wset w1 r (true, eI 18 g1)) 0 0 by rw [wset_id hR1] at hh; exact hh
  refine g_loop (σ := Nat × (Nat → Int)) (fun q => q.1 ≤ v ∧ DC q.2 ∧ V18 q.2 = nv B28 g q.1 * V18 g2 ∧ ∀ k, q.1 + v2 ≤ k → k < 18 → q.2 k = 0) (fun q => G E X 8 22 [some (.ref a), some (.ref b), some (.ref c), some (iI (e : Int)), some (iI (q.1 : Int)), none, none, none] [] (wset w1 r (true, eI 18 q.2)) 0 0) (fun q => v - q.1) ?_ (0, g1) ⟨by dsimp only; omega, fun i hi => by dsimp only; rw [hg1 i hi]; decide, by
    show V18 g1 = 0 * V18 g2
    rw [Int.zero_mul]
    exact nv_zeros (B := B28) (f := g1) (m := 0) (n := 18) (by omega) (fun i _ h => hg1 i h), fun k _ hk => hg1 k hk⟩
  rintro ⟨i, h⟩ hq ih
  obtain ⟨hi, hdh, hVh, hzh⟩ := hq
  dsimp only at hi hdh hVh hzh ⊢
  have hOi : (wset w1 r (true, eI 18 h)).2 a = some (true, eO 7 [.ref r, iI 0, iI 0]) := by rw [wset_n hne]; exact hO1
  have hBi : (wset w1 r (true, eI 18 h)).2 b = some (true, oW s v bm) := by rw [wset_n hbr]; exact kB
  have hCi : (wset w1 r (true, eI 18 h)).2 c = some (true, oW t v2 bn) := by rw [wset_n hcr]; exact kC
  have hSi : (wset w1 r (true, eI 18 h)).2 s = some (true, eI 18 g) := by rw [wset_n (Ne.symm hrs)]; exact kS
  have hTi : (wset w1 r (true, eI 18 h)).2 t = some (true, eI 18 g2) := by rw [wset_n (Ne.symm hrt)]; exact kT
  have J131 : i = v → G E X 8 131 [some (.ref a), some (.ref b), some (.ref c), some (iI (e : Int)), some (iI (i : Int)), none, none, none] [] (wset w1 r (true, eI 18 h)) 0 0 := by
    intro hiv
    refine g_aload_n C dX5_setProduct_131 rfl ?_
    have J148 : ∀ q : Int, (q = 0 ∧ bm = bn ∨ q = 1 ∧ bm ≠ bn) → G E X 8 148 [some (.ref a), some (.ref b), some (.ref c), some (iI (e : Int)), some (iI (i : Int)), none, none, none] [iI q, .ref a] (wset w1 r (true, eI 18 h)) 0 0 := by
      intro q hq
      have hq01 : q = 0 ∨ q = 1 := by omega
      refine g_put (ci := 7) C rfl inTX5 tyX5 tyX5_ok nmX5 2 (by decide) fl_RX5_13 rfl rfl hOi (Nat.le_of_ble_eq_true rfl) (by rcases hq01 with q1 | q1 <;> (rw [q1]; rfl)) (by rcases hq01 with q1 | q1 <;> (rw [q1]; rfl)) dX5_setProduct_148 ?_
      refine g_aload_n C dX5_setProduct_151 rfl ?_
      refine g_iload_n C dX5_setProduct_152 rfl ?_
      refine g_callV C (c_X5_trim _ (p := e) wset_s (by rw [wset_n (Ne.symm hne)]; exact wset_s) hdh he1 (fun k k1 k2 => hzh k (by omega) k2) hq01) (ci := 7) rfl wset_s rfl ml_RX5_30 im_yX5_trim se_RX5_yX5_trim in_RX5 co_yX5_trim hd_X5_trim rfl ⟨by omega, by omega⟩ rfl (Nat.le_of_ble_eq_true rfl) ⟨by omega, by omega⟩ dX5_setProduct_153 (fun v153 w153 hp153 => ?_)
      obtain ⟨rfl, u', hw9, hO9, fr9⟩ := hp153
      exact g_return C hQ dX5_setProduct_156 (Nat.le_refl _) (Nat.le_refl _) (by
        have k9 : RA w153 a r h u' (if 0 < u' then q else 0) := ⟨hO9, by rw [fr9.2 r (Ne.symm hne), wset_n (Ne.symm hne)]; exact wset_s, hw9, by split <;> omega⟩
        have hw := k9.wa hq01
        rw [hVh, hiv, ← hg.val] at hw
        refine ⟨rfl, hw.eq ?_, ⟨fr9.1.trans fr1.1, fun x k1 k2 => by rw [fr9.2 x k1, wset_n k1, wset_n k2]; exact fr1.2 x k1 k2⟩⟩
        have y1 := n2.z
        have y2 := n3.z
        rcases y1 with ⟨y1, y3⟩ | ⟨y1, y3⟩ <;> rcases y2 with ⟨y2, y4⟩ | ⟨y2, y4⟩ <;> rw [y3, y4] <;> rcases hq with ⟨q1, q2⟩ | ⟨q1, q2⟩ <;> first | omega | (rw [q1, if1]; grind) | (rw [q1, if0]; grind))
    refine g_aload_n C dX5_setProduct_132 rfl ?_
    refine g_get (ci := 7) C rfl inTX5 2 (by decide) fl_RX5_13 rfl hBi rfl dX5_setProduct_133 ?_
    refine g_aload_n C dX5_setProduct_136 rfl ?_
    refine g_get (ci := 7) C rfl inTX5 2 (by decide) fl_RX5_13 rfl hCi rfl dX5_setProduct_137 ?_
    refine g_icmp_eq (tgt := 147) C dX5_setProduct_140 (by decide) (by omega) (by omega) (fun h140 => ?_) (fun h140 => ?_)
    · refine g_iconst C dX5_setProduct_147 ?_
      exact J148 _ (by omega)
    · refine g_iconst C dX5_setProduct_143 ?_
      refine g_goto (tgt := 148) C dX5_setProduct_144 (by decide) ?_
      exact J148 _ (by omega)
  refine g_iload C dX5_setProduct_22 rfl ?_
  refine g_aload_n C dX5_setProduct_24 rfl ?_
  refine g_get (ci := 7) C rfl inTX5 1 (by decide) fl_RX5_17 rfl hBi rfl dX5_setProduct_25 ?_
  refine g_icmp_ge (tgt := 131) C dX5_setProduct_28 (by decide) (by omega) (by omega) (fun h28 => ?_) (fun h28 => ?_)
  · exact J131 (by omega)
  · refine g_iload C dX5_setProduct_31 rfl ?_
    refine g_iload_n C dX5_setProduct_33 rfl ?_
    refine g_icmp_ge (tgt := 131) C dX5_setProduct_34 (by decide) (by omega) (by omega) (fun h34 => ?_) (fun h34 => ?_)
    · exact J131 (by omega)
    · refine g_lconst (z := 0) C dX5_setProduct_37 (by decide) ?_
      refine g_lstore C dX5_setProduct_38 (by decide) rfl ?_
      refine g_iconst C dX5_setProduct_40 ?_
      refine g_istore C dX5_setProduct_41 (by decide) rfl ?_
      refine g_loop (σ := Nat × Int × (Nat → Int)) (fun q => q.1 ≤ v2 + 1 ∧ i + q.1 ≤ e ∧ (0 ≤ q.2.1 ∧ q.2.1 < 268435456) ∧ (v2 < q.1 → q.2.1 = 0) ∧ DC q.2.2 ∧ (∀ k, i + q.1 ≤ k → q.2.2 k = h k) ∧ nv B28 q.2.2 (i + q.1) + q.2.1 * B28 ^ (i + q.1) = nv B28 h (i + q.1) + g i * (nv B28 g2 q.1 * B28 ^ i)) (fun q => G E X 8 43 [some (.ref a), some (.ref b), some (.ref c), some (iI (e : Int)), some (iI (i : Int)), some (jJ q.2.1), none, some (iI (q.1 : Int))] [] (wset w1 r (true, eI 18 q.2.2)) 0 0) (fun q => 19 - q.1) ?_ (0, 0, h) ⟨by dsimp only; omega, by dsimp only; omega, by dsimp only; omega, fun _ => rfl, hdh, fun k _ => rfl, by show _ + 0 * _ = _ + g i * (0 * _); rw [Int.zero_mul, Int.zero_mul, Int.mul_zero]⟩
      clear hOi hBi hCi hSi hTi
      rintro ⟨j, cy, k⟩ hq ih2
      obtain ⟨hj, hij, hcy, hcz, hdk, hkk, hve⟩ := hq
      dsimp only at hj hij hcy hcz hdk hkk hve ⊢
      have hOk : (wset w1 r (true, eI 18 k)).2 a = some (true, eO 7 [.ref r, iI 0, iI 0]) := by rw [wset_n hne]; exact hO1
      have hBk : (wset w1 r (true, eI 18 k)).2 b = some (true, oW s v bm) := by rw [wset_n hbr]; exact kB
      have hCk : (wset w1 r (true, eI 18 k)).2 c = some (true, oW t v2 bn) := by rw [wset_n hcr]; exact kC
      have hSk : (wset w1 r (true, eI 18 k)).2 s = some (true, eI 18 g) := by rw [wset_n (Ne.symm hrs)]; exact kS
      have hTk : (wset w1 r (true, eI 18 k)).2 t = some (true, eI 18 g2) := by rw [wset_n (Ne.symm hrt)]; exact kT
      refine g_iload C dX5_setProduct_43 rfl ?_
      refine g_aload_n C dX5_setProduct_45 rfl ?_
      refine g_get (ci := 7) C rfl inTX5 1 (by decide) fl_RX5_17 rfl hCk rfl dX5_setProduct_46 ?_
      refine g_icmp_gt (tgt := 125) C dX5_setProduct_49 (by decide) (by omega) (by omega) (fun h49 => ?_) (fun h49 => ?_)
      · refine g_iinc C dX5_setProduct_125 rfl (by decide) rfl ?_
        refine g_goto (tgt := 22) C dX5_setProduct_128 (by decide) ?_
        refine g_drop 7 ?_
        refine g_drop 5 ?_
        rw [show (i : Int) + 1 = ((i + 1 : Nat) : Int) by omega]
        exact ih (i + 1, k) ⟨by dsimp only; omega, hdk, prod_row hg hg2 (by omega) hVh hzh hdk hkk (by omega) (by omega) hcy.1 hcz hve hbd, fun x h3 h4 => by dsimp only at h3 ⊢; rw [hkk x (by omega)]; exact hzh x (by omega) h4⟩ (by dsimp only; omega)
      · refine g_iload C dX5_setProduct_52 rfl ?_
        refine g_iload C dX5_setProduct_54 rfl ?_
        refine g_iadd C dX5_setProduct_56 ?_
        refine g_iload_n C dX5_setProduct_57 rfl ?_
        refine g_icmp_ge (tgt := 125) C dX5_setProduct_58 (by decide) (by omega) (by omega) (fun h58 => ?_) (fun h58 => ?_)
        · refine g_iinc C dX5_setProduct_125 rfl (by decide) rfl ?_
          refine g_goto (tgt := 22) C dX5_setProduct_128 (by decide) ?_
          refine g_drop 7 ?_
          refine g_drop 5 ?_
          rw [show (i : Int) + 1 = ((i + 1 : Nat) : Int) by omega]
          exact ih (i + 1, k) ⟨by dsimp only; omega, hdk, prod_row hg hg2 (by omega) hVh hzh hdk hkk (by omega) (by omega) hcy.1 hcz hve hbd, fun x h3 h4 => by dsimp only at h3 ⊢; rw [hkk x (by omega)]; exact hzh x (by omega) h4⟩ (by dsimp only; omega)
        · have hkj := hdk (i + j) (by omega)
          have hkh := hkk (i + j) (Nat.le_refl _)
          have hgi := hg.1 i (by omega)
          have hgj := hg2.1 j (by omega)
          have hmb : 0 ≤ g i * g2 j ∧ g i * g2 j ≤ 268435455 * 268435455 := ⟨Int.mul_nonneg hgi.1 hgj.1, Int.mul_le_mul (by omega) (by omega) hgj.1 (by decide)⟩
          have hm28 := mod28 (cy + (k (i + j) + g i * g2 j))
          have hd28e : (cy + (k (i + j) + g i * g2 j)) / B28 = (cy + (k (i + j) + g i * g2 j)) / 268435456 := rfl
          have hlast : v2 ≤ j → g2 j = 0 ∧ k (i + j) = 0 := fun q => ⟨hg2.2.2.1 j q (by omega), by rw [hkh]; exact hzh _ (by omega) (by omega)⟩
          refine g_lload C dX5_setProduct_61 rfl ?_
          refine g_aload_n C dX5_setProduct_63 rfl ?_
          refine g_get (ci := 7) C rfl inTX5 0 (by decide) fl_RX5_9 rfl hOk rfl dX5_setProduct_64 ?_
          refine g_iload C dX5_setProduct_67 rfl ?_
          refine g_iload C dX5_setProduct_69 rfl ?_
          refine g_iadd C dX5_setProduct_71 ?_
          rw [show (i : Int) + (j : Int) = ((i + j : Nat) : Int) by omega]
          refine g_ialoadN (i + j) C wset_s (by omega) (by omega) dX5_setProduct_72 ?_
          refine g_i2l C dX5_setProduct_73 (by omega) ?_
          refine g_aload_n C dX5_setProduct_74 rfl ?_
          refine g_get (ci := 7) C rfl inTX5 0 (by decide) fl_RX5_9 rfl hBk rfl dX5_setProduct_75 ?_
          refine g_iload C dX5_setProduct_78 rfl ?_
          refine g_ialoadN (i) C hSk (by omega) (by omega) dX5_setProduct_80 ?_
          refine g_i2l C dX5_setProduct_81 (by omega) ?_
          refine g_aload_n C dX5_setProduct_82 rfl ?_
          refine g_get (ci := 7) C rfl inTX5 0 (by decide) fl_RX5_9 rfl hCk rfl dX5_setProduct_83 ?_
          refine g_iload C dX5_setProduct_86 rfl ?_
          refine g_ialoadN (j) C hTk (by omega) (by omega) dX5_setProduct_88 ?_
          refine g_i2l C dX5_setProduct_89 (by omega) ?_
          refine g_lmul C dX5_setProduct_90 ?_
          refine g_ladd C dX5_setProduct_91 ?_
          refine g_ladd C dX5_setProduct_92 ?_
          refine g_lstore C dX5_setProduct_93 (by decide) rfl ?_
          refine g_aload_n C dX5_setProduct_95 rfl ?_
          refine g_get (ci := 7) C rfl inTX5 0 (by decide) fl_RX5_9 rfl hOk rfl dX5_setProduct_96 ?_
          refine g_iload C dX5_setProduct_99 rfl ?_
          refine g_iload C dX5_setProduct_101 rfl ?_
          refine g_iadd C dX5_setProduct_103 ?_
          rw [show (i : Int) + (j : Int) = ((i + j : Nat) : Int) by omega]
          refine g_lload C dX5_setProduct_104 rfl ?_
          refine g_ldc2 (z := 268435455) C kj_RX5_28 (by decide) dX5_setProduct_106 ?_
          refine g_land (z := (cy + (k (i + j) + g i * g2 j)) % B28) C dX5_setProduct_109 (j_mask 28 (by omega) mask28) ?_
          refine g_l2i C dX5_setProduct_110 ?_
          refine g_iastoreN (i + j) C wset_s (by omega) (by omega) dX5_setProduct_111 ?_
          rw [wset_set]
          refine g_lload C dX5_setProduct_112 rfl ?_
          refine g_bipush C dX5_setProduct_114 (by decide) ?_
          refine g_lushr (z := (cy + (k (i + j) + g i * g2 j)) / B28) C dX5_setProduct_116 (j_ushr 28 (by omega) (by omega) (by decide)) ?_
          refine g_lstore C dX5_setProduct_117 (by decide) rfl ?_
          refine g_iinc C dX5_setProduct_119 rfl (by decide) rfl ?_
          refine g_goto (tgt := 43) C dX5_setProduct_122 (by decide) ?_
          exact ih2 (j + 1, (cy + (k (i + j) + g i * g2 j)) / B28, iup k (i + j) ((cy + (k (i + j) + g i * g2 j)) % B28)) ⟨by dsimp only; omega, by dsimp only; omega, by dsimp only; omega, fun q => by
            dsimp only at q ⊢
            obtain ⟨q1, q2⟩ := hlast (by omega)
            rw [q1, q2, Int.mul_zero]
            show (cy + (0 + 0)) / 268435456 = 0
            omega, hdk.up _ hm28, fun x hx => by dsimp only at hx ⊢; rw [iup_n (by omega)]; exact hkk x (by omega), prod_step hve (by rw [hkh])⟩ (by dsimp only; omega)
theorem shift_all {f h : Nat → Int} {u D Bt e : Nat} (hf : Wr f u) (hu : 0 < u) (hBt : Bt < 28) (he1 : e ≤ 18) (he2 : e = u + D + 1 ∧ u + D + 1 < 18 ∨ e = 18 ∧ 18 ≤ u + D + 1) (hz : ∀ i, i < D → i < e → h i = 0) (hh : ∀ i, D + i < e → h (D + i) = (f i * 2 ^ Bt) % B28 + (if i = 0 then 0 else f (i - 1) * 2 ^ Bt / B28)) (he : ∀ i, e ≤ i → i < 18 → h i = 0) (hdh : DC h) (hbd : V18 f * 2 ^ (28 * D + Bt) < B28 ^ 18) : V18 h = V18 f * 2 ^ (28 * D + Bt) := by
  have hu18 := hf.2.1
  obtain ⟨t, rfl⟩ : ∃ t, u = t + 1 := ⟨u - 1, by omega⟩
  have hge := hf.ge
  have pB := p2_pos Bt
  have pD := pw_pos (B := B28) (by decide) D
  rw [Int.pow_add, ← B28_pow] at hbd ⊢
  have hV0 := V18_0 hf.1
  have hD : D + t < 18 := by
    rcases Nat.lt_or_ge (D + t) 18 with q | q
    · exact q
    · have a1 := pw28_le q
      rw [Int.pow_add] at a1
      have a2 := Int.mul_le_mul_of_nonneg_left hge (Int.le_of_lt pD)
      have a3 : B28 ^ D * V18 f * 1 ≤ B28 ^ D * V18 f * 2 ^ Bt := Int.mul_le_mul_of_nonneg_left (by omega) (Int.mul_nonneg (Int.le_of_lt pD) hV0)
      have a4 : V18 f * (B28 ^ D * 2 ^ Bt) = B28 ^ D * V18 f * 2 ^ Bt := by grind
      omega
  obtain ⟨n, hn⟩ : ∃ n, e = D + n := ⟨e - D, by omega⟩
  subst hn
  have e1 : V18 h = nv B28 h (D + n) := nv_zeros he1 he
  rw [e1, nv_shift D (fun i hi => hz i hi (by omega)) n]
  have sh := shl_step (B := B28) (p := 0) (f := f) (h := fun i => h (D + i)) (b2 := 2 ^ Bt) (n := n) (fun i hi => hh i (by omega))
  rw [Int.add_zero, if_neg (by omega)] at sh
  have hn1 : t + 1 ≤ n := by omega
  have e2 : V18 f = nv B28 f n := nv_zeros (by omega) (fun i h1 h2 => hf.2.2.1 i (by omega) h2)
  rw [← e2] at sh
  have hc0 : f (n - 1) * 2 ^ Bt / B28 = 0 := by
    rcases Nat.lt_or_ge (t + 1) n with q | q
    · rw [hf.2.2.1 (n - 1) (by omega) (by omega), Int.zero_mul, Int.zero_ediv]
    · have hn : D + n = 18 := by omega
      have hfn := hf.1 (n - 1) (by omega)
      have hc : 0 ≤ f (n - 1) * 2 ^ Bt / B28 := Int.ediv_nonneg (Int.mul_nonneg hfn.1 (Int.le_of_lt pB)) (by decide)
      have hn0 : 0 ≤ nv B28 (fun i => h (D + i)) n := nv_nonneg (by decide) (fun i hi => hdh (D + i) (by omega))
      have pn := pw_pos (B := B28) (by decide) n
      rcases Int.lt_or_le 0 (f (n - 1) * 2 ^ Bt / B28) with r | r
      · have a1 := Int.mul_le_mul_of_nonneg_right (show 1 ≤ f (n - 1) * 2 ^ Bt / B28 by omega) (Int.le_of_lt pn)
        rw [Int.one_mul] at a1
        have a2 : B28 ^ n ≤ V18 f * 2 ^ Bt := by omega
        have a3 := Int.mul_le_mul_of_nonneg_left a2 (Int.le_of_lt pD)
        rw [← Int.pow_add, hn] at a3
        have a4 : V18 f * (B28 ^ D * 2 ^ Bt) = B28 ^ D * (V18 f * 2 ^ Bt) := by grind
        omega
      · omega
  rw [hc0, Int.zero_mul, Int.add_zero] at sh
  rw [sh]
  grind
set_option maxHeartbeats 4000000 in
set_option maxRecDepth 100000 in
theorem v_X5_shiftUp (l : Launch) {E : GE} {w : Wd} {a r : Nat} {f : Nat → Int} {u : Nat} {bl : Int} (h1 : RA w a r f u bl) {mn : Nat} (hmn : mn ≤ 2000) (hu0 : 0 < u) (hbd : V18 f * 2 ^ mn < B28 ^ 18) : Sp E l yX5_shiftUp cX5_shiftUp 9 none 1 (0) (0) [.ref a, iI (mn : Int)] w (fun r' w' => r' = none ∧ ∃ f' u', RA w' a r f' u' (if 0 < u' then bl else 0) ∧ V18 f' = V18 f * 2 ^ mn ∧ FrW w w' a r) := by
  refine sp_intro [some (.ref a), some (iI (mn : Int)), none, none, none, none, none, none, none] rfl (Nat.le_of_ble_eq_true rfl) pn_X5 ?_
  intro X C hRm hl hnm hQ
  obtain ⟨hRf, hRl, hRc, hRs⟩ := hRm
  refine g_wf (fun hwf => ?_)
  have hB28 : B28 = 268435456 := rfl
  have hne := h1.ne
  obtain ⟨hO, hR, hf, hbl⟩ := id h1
  have hu18 := hf.2.1
  have hmx : (if (0 : Int) < (mn : Int) then (mn : Int) else 0) = (mn : Int) := by split <;> omega
  obtain ⟨hD, hB⟩ := dv28 mn
  have hD9 : mn / 28 ≤ 72 := by omega
  have hB9 : mn % 28 ≤ 27 := by omega
  have hmnE : 28 * (mn / 28) + mn % 28 = mn := by omega
  rw [← hmnE] at hbd
  generalize mn / 28 = D at hD hD9 hbd hmnE
  generalize mn % 28 = Bt at hB hB9 hbd hmnE
  obtain ⟨e, he1, he2, he3⟩ := mn18 (u + D + 1)
  have pBt := p2_pos Bt
  have hf9 : ∀ i, i < 18 → 0 ≤ f i * 2 ^ Bt / B28 ∧ f i * 2 ^ Bt / B28 < 2 ^ Bt := fun i hi => by
    have := hf.1 i hi
    have h0 := Int.mul_nonneg this.1 (Int.le_of_lt pBt)
    refine ⟨Int.ediv_nonneg h0 (by decide), Int.ediv_lt_of_lt_mul (by decide) ?_⟩
    rw [Int.mul_comm (2 ^ Bt)]
    exact Int.mul_lt_mul_of_pos_right this.2 pBt
  have hlow : ∀ i, i < 18 → f i / 2 ^ (28 - Bt) = f i * 2 ^ Bt / B28 := fun i hi => by
    rw [show B28 = 2 ^ (28 - Bt) * 2 ^ Bt by rw [← Int.pow_add, show 28 - Bt + Bt = 28 by omega]; rfl]
    exact (Int.mul_ediv_mul_of_pos_left _ _ pBt).symm
  have hlt : ∀ x : Int, (x * 2 ^ Bt) % B28 = (x % 2 ^ (28 - Bt)) * 2 ^ Bt := fun x => by
    rw [show B28 = 2 ^ (28 - Bt) * 2 ^ Bt by rw [← Int.pow_add, show 28 - Bt + Bt = 28 by omega]; rfl]
    rw [Int.mul_comm x, Int.mul_comm (2 ^ (28 - Bt)), Int.mul_emod_mul_of_pos _ _ pBt, Int.mul_comm]
  refine g_iconst C dX5_shiftUp_0 ?_
  refine g_iload_n C dX5_shiftUp_1 rfl ?_
  refine g_max C ml_RX5_60 (by omega) (by omega) (by omega) (by omega) (Nat.le_of_ble_eq_true rfl) (by omega) dX5_shiftUp_2 ?_
  rw [hmx]
  refine g_bipush C dX5_shiftUp_5 (by decide) ?_
  refine g_idivN C dX5_shiftUp_7 (by omega) (by omega) ?_
  rw [hD]
  refine g_istore_n C dX5_shiftUp_8 (by decide) rfl ?_
  refine g_iconst C dX5_shiftUp_9 ?_
  refine g_iload_n C dX5_shiftUp_10 rfl ?_
  refine g_max C ml_RX5_60 (by omega) (by omega) (by omega) (by omega) (Nat.le_of_ble_eq_true rfl) (by omega) dX5_shiftUp_11 ?_
  rw [hmx]
  refine g_bipush C dX5_shiftUp_14 (by decide) ?_
  refine g_iremN C dX5_shiftUp_16 (by omega) (by omega) ?_
  rw [hB]
  refine g_istore_n C dX5_shiftUp_17 (by decide) rfl ?_
  refine g_bipush C dX5_shiftUp_18 (by decide) ?_
  refine g_aload_n C dX5_shiftUp_20 rfl ?_
  refine g_get (ci := 7) C rfl inTX5 1 (by decide) fl_RX5_17 rfl hO rfl dX5_shiftUp_21 ?_
  refine g_iload_n C dX5_shiftUp_24 rfl ?_
  refine g_iadd C dX5_shiftUp_25 ?_
  refine g_iconst C dX5_shiftUp_26 ?_
  refine g_iadd C dX5_shiftUp_27 ?_
  rw [show (u : Int) + (D : Int) + 1 = ((u + D + 1 : Nat) : Int) by omega]
  refine g_min C ml_RX5_66 (by omega) (by omega) (by omega) (by omega) (Nat.le_of_ble_eq_true rfl) (by omega) dX5_shiftUp_28 ?_
  rw [he3]
  refine g_istore C dX5_shiftUp_31 (by decide) rfl ?_
  refine g_iload C dX5_shiftUp_33 rfl ?_
  refine g_iconst C dX5_shiftUp_35 ?_
  refine g_isub C dX5_shiftUp_36 ?_
  refine g_istore C dX5_shiftUp_37 (by decide) rfl ?_
  suffices hh : G E X 9 39 [some (.ref a), some (iI (mn : Int)), some (iI (D : Int)), some (iI (Bt : Int)), some (iI (e : Int)), some (iI ((e : Int) - 1 - ((0 : Nat) : Int))), none, none, none] [] (wset w r (true, eI 18 f)) 0 0 by rw [wset_id hR, show (e : Int) - 1 - ((0 : Nat) : Int) = (e : Int) - 1 by omega] at hh; exact hh
  refine g_loop (σ := Nat × (Nat → Int)) (fun t => t.1 ≤ e ∧ DC t.2 ∧ (∀ i, i + t.1 < e → t.2 i = f i) ∧ (∀ i, e ≤ i → i < 18 → t.2 i = 0) ∧ (∀ i, e ≤ i + t.1 → i < e → i < D → t.2 i = 0) ∧ (∀ i, e ≤ D + i + t.1 → D + i < e → t.2 (D + i) = (f i * 2 ^ Bt) % B28 + (if i = 0 then 0 else f (i - 1) * 2 ^ Bt / B28))) (fun t => G E X 9 39 [some (.ref a), some (iI (mn : Int)), some (iI (D : Int)), some (iI (Bt : Int)), some (iI (e : Int)), some (iI ((e : Int) - 1 - (t.1 : Int))), none, none, none] [] (wset w r (true, eI 18 t.2)) 0 0) (fun t => e - t.1) ?_ (0, f) ⟨by dsimp only; omega, hf.1, fun i _ => rfl, fun i h3 h4 => hf.2.2.1 i (by omega) h4, fun i h3 h4 => by dsimp only at h3; omega, fun i h3 h4 => by dsimp only at h3; omega⟩
  rintro ⟨j, h⟩ hq ih
  obtain ⟨hj, hdh, hk0, hk1, hk2, hk3⟩ := hq
  dsimp only at hj hdh hk0 hk1 hk2 hk3 ⊢
  have hOk : (wset w r (true, eI 18 h)).2 a = some (true, oW r u bl) := by rw [wset_n hne]; exact hO
  refine g_iload C dX5_shiftUp_39 rfl ?_
  refine g_if_lt (tgt := 117) C dX5_shiftUp_41 (by decide) (by omega) (fun h41 => ?_) (fun h41 => ?_)
  · refine g_aload_n C dX5_shiftUp_117 rfl ?_
    refine g_iload C dX5_shiftUp_118 rfl ?_
    refine g_callV C (c_X5_trim _ (p := e) hOk wset_s hdh he1 hk1 hbl) (ci := 7) rfl hOk rfl ml_RX5_30 im_yX5_trim se_RX5_yX5_trim in_RX5 co_yX5_trim hd_X5_trim rfl ⟨by omega, by omega⟩ rfl (Nat.le_of_ble_eq_true rfl) ⟨by omega, by omega⟩ dX5_shiftUp_120 (fun v120 w120 hp120 => ?_)
    obtain ⟨rfl, u', hw9, hO9, fr9⟩ := hp120
    exact g_return C hQ dX5_shiftUp_123 (Nat.le_refl _) (Nat.le_refl _) ⟨rfl, h, u', ⟨hO9, by rw [fr9.2 r (Ne.symm hne)]; exact wset_s, hw9, by split <;> omega⟩, by
      rw [← hmnE]
      exact shift_all hf hu0 (by omega) he1 he2 (fun i h3 h4 => hk2 i (by omega) h4 h3) (fun i h3 => hk3 i (by omega) h3) hk1 hdh hbd, ⟨fr9.1, fun z h3 h4 => by rw [fr9.2 z h3, wset_n h4]⟩⟩
  · obtain ⟨k, hk⟩ : ∃ k : Nat, k + j + 1 = e := ⟨e - 1 - j, by omega⟩
    rw [show (e : Int) - 1 - (j : Int) = (k : Int) by omega]
    refine g_iload C dX5_shiftUp_44 rfl ?_
    refine g_iload_n C dX5_shiftUp_46 rfl ?_
    refine g_isub C dX5_shiftUp_47 ?_
    refine g_istore C dX5_shiftUp_48 (by decide) rfl ?_
    have J68 : ∀ x : Int, (k < D ∧ x = 0 ∨ D ≤ k ∧ x = f (k - D) * 2 ^ Bt) → G E X 9 68 [some (.ref a), some (iI (mn : Int)), some (iI (D : Int)), some (iI (Bt : Int)), some (iI (e : Int)), some (iI (k : Int)), some (iI ((k : Int) - (D : Int))), none, none] [iI x] (wset w r (true, eI 18 h)) 0 0 := by
      intro x hx
      refine g_istore C dX5_shiftUp_68 (by decide) rfl ?_
      have J94 : ∀ y : Int, (k < D + 1 ∧ y = 0 ∨ D + 1 ≤ k ∧ y = f (k - D - 1) * 2 ^ Bt / B28) → G E X 9 94 [some (.ref a), some (iI (mn : Int)), some (iI (D : Int)), some (iI (Bt : Int)), some (iI (e : Int)), some (iI (k : Int)), some (iI ((k : Int) - (D : Int))), some (iI x), none] [iI y] (wset w r (true, eI 18 h)) 0 0 := by
        intro y hy
        have hy2 : 0 ≤ y ∧ y < 2 ^ Bt := by
          rcases hy with ⟨-, q⟩ | ⟨q1, q⟩
          · rw [q]; exact ⟨Int.le_refl _, pBt⟩
          · rw [q]; exact hf9 _ (by omega)
        have hor := i_or2 (x := x / 2 ^ Bt % 2 ^ (28 - Bt)) (t := y) Bt (Int.emod_nonneg _ (Int.ne_of_gt (p2_pos _))) hy2 (by omega)
        have hxm : x / 2 ^ Bt % 2 ^ (28 - Bt) * 2 ^ Bt = x % B28 := by
          rcases hx with ⟨-, q⟩ | ⟨-, q⟩
          · rw [q, Int.zero_ediv, Int.zero_emod, Int.zero_mul, Int.zero_emod]
          · rw [q, Int.mul_ediv_cancel _ (Int.ne_of_gt pBt), hlt]
        rw [hxm] at hor
        have hnew : 0 ≤ x % B28 + y ∧ x % B28 + y < B28 := by
          have m0 := Int.emod_nonneg (x / 2 ^ Bt) (Int.ne_of_gt (p2_pos (28 - Bt)))
          have m1 := Int.emod_lt_of_pos (x / 2 ^ Bt) (p2_pos (28 - Bt))
          have m2 := Int.mul_le_mul_of_nonneg_right (show x / 2 ^ Bt % 2 ^ (28 - Bt) + 1 ≤ 2 ^ (28 - Bt) by omega) (Int.le_of_lt pBt)
          rw [← Int.pow_add, show 28 - Bt + Bt = 28 by omega, Int.add_mul, Int.one_mul, hxm, show (2 : Int) ^ 28 = B28 by decide] at m2
          have m3 := mod28 x
          omega
        refine g_istore C dX5_shiftUp_94 (by decide) rfl ?_
        refine g_aload_n C dX5_shiftUp_96 rfl ?_
        refine g_get (ci := 7) C rfl inTX5 0 (by decide) fl_RX5_9 rfl hOk rfl dX5_shiftUp_97 ?_
        refine g_iload C dX5_shiftUp_100 rfl ?_
        refine g_iload C dX5_shiftUp_102 rfl ?_
        refine g_ldc (z := 268435455) C ko_RX5_69 (by decide) dX5_shiftUp_104 ?_
        refine g_iand (z := x % B28) C dX5_shiftUp_106 (i_mask 28 (by omega) mask28) ?_
        refine g_iload C dX5_shiftUp_107 rfl ?_
        refine g_ior (z := x % B28 + y) C dX5_shiftUp_109 hor ?_
        refine g_iastoreN (k) C wset_s (by omega) (by omega) dX5_shiftUp_110 ?_
        rw [wset_set]
        refine g_iinc C dX5_shiftUp_111 rfl (by decide) rfl ?_
        refine g_goto (tgt := 39) C dX5_shiftUp_114 (by decide) ?_
        refine g_drop 8 ?_
        refine g_drop 7 ?_
        refine g_drop 6 ?_
        rw [show (k : Int) + -1 = (e : Int) - 1 - ((j + 1 : Nat) : Int) by omega]
        exact ih (j + 1, iup h k (x % B28 + y)) ⟨by dsimp only; omega, hdh.up _ hnew, fun i h3 => by dsimp only at h3 ⊢; rw [iup_n (by omega)]; exact hk0 i (by omega), fun i h3 h4 => by dsimp only; rw [iup_n (by omega)]; exact hk1 i h3 h4, fun i h3 h4 h5 => by
          dsimp only at h3 ⊢
          by_cases q : i = k
          · rw [q, iup_s]
            rcases hx with ⟨q1, q2⟩ | ⟨q1, q2⟩
            · rcases hy with ⟨q3, q4⟩ | ⟨q3, q4⟩
              · rw [q2, q4]; rfl
              · omega
            · omega
          · rw [iup_n q]; exact hk2 i (by omega) h4 h5, fun i h3 h4 => by
          dsimp only at h3 ⊢
          by_cases q : D + i = k
          · rw [q, iup_s]
            rcases hx with ⟨q1, q2⟩ | ⟨q1, q2⟩
            · omega
            · rw [q2, show k - D = i by omega]
              rcases hy with ⟨q3, q4⟩ | ⟨q3, q4⟩
              · rw [if_pos (by omega), q4]
              · rw [if_neg (by omega), q4, show k - D - 1 = i - 1 by omega]
          · rw [iup_n q]; exact hk3 i (by omega) h4⟩ (by dsimp only; omega)
      refine g_iload C dX5_shiftUp_70 rfl ?_
      refine g_iconst C dX5_shiftUp_72 ?_
      refine g_icmp_lt (tgt := 93) C dX5_shiftUp_73 (by decide) (by omega) (by omega) (fun h73 => ?_) (fun h73 => ?_)
      · refine g_iconst C dX5_shiftUp_93 ?_
        first | exact J94 _ (Or.inr ⟨by omega, rfl⟩) | exact J94 0 (Or.inl ⟨by omega, rfl⟩)
      · have hfl := hk0 (k - D - 1) (by omega)
        have hf0l := hf.1 (k - D - 1) (by omega)
        refine g_aload_n C dX5_shiftUp_76 rfl ?_
        refine g_get (ci := 7) C rfl inTX5 0 (by decide) fl_RX5_9 rfl hOk rfl dX5_shiftUp_77 ?_
        refine g_iload C dX5_shiftUp_80 rfl ?_
        refine g_iconst C dX5_shiftUp_82 ?_
        refine g_isub C dX5_shiftUp_83 ?_
        refine g_ialoadN (k - D - 1) C wset_s (by omega) (by omega) dX5_shiftUp_84 ?_
        rw [hfl]
        refine g_bipush C dX5_shiftUp_85 (by decide) ?_
        refine g_iload_n C dX5_shiftUp_87 rfl ?_
        refine g_isub C dX5_shiftUp_88 ?_
        rw [show (28 : Int) - (Bt : Int) = ((28 - Bt : Nat) : Int) by omega]
        refine g_iushr (z := f (k - D - 1) / 2 ^ (28 - Bt)) C dX5_shiftUp_89 (i_ushr (28 - Bt) (by omega) (by omega) (shd28 (28 - Bt) (by omega))) ?_
        rw [hlow _ (by omega)]
        refine g_goto (tgt := 94) C dX5_shiftUp_90 (by decide) ?_
        first | exact J94 _ (Or.inr ⟨by omega, rfl⟩) | exact J94 0 (Or.inl ⟨by omega, rfl⟩)
    refine g_iload C dX5_shiftUp_50 rfl ?_
    refine g_if_lt (tgt := 67) C dX5_shiftUp_52 (by decide) (by omega) (fun h52 => ?_) (fun h52 => ?_)
    · refine g_iconst C dX5_shiftUp_67 ?_
      first | exact J68 _ (Or.inr ⟨by omega, rfl⟩) | exact J68 0 (Or.inl ⟨by omega, rfl⟩)
    · refine g_aload_n C dX5_shiftUp_55 rfl ?_
      refine g_get (ci := 7) C rfl inTX5 0 (by decide) fl_RX5_9 rfl hOk rfl dX5_shiftUp_56 ?_
      refine g_iload C dX5_shiftUp_59 rfl ?_
      refine g_ialoadN (k - D) C wset_s (by omega) (by omega) dX5_shiftUp_61 ?_
      rw [hk0 (k - D) (by omega)]
      refine g_iload_n C dX5_shiftUp_62 rfl ?_
      refine g_ishl (z := f (k - D) * 2 ^ Bt) C dX5_shiftUp_63 (i_shl Bt (by omega)) ?_
      refine g_goto (tgt := 68) C dX5_shiftUp_64 (by decide) ?_
      first | exact J68 _ (Or.inr ⟨by omega, rfl⟩) | exact J68 0 (Or.inl ⟨by omega, rfl⟩)
set_option maxHeartbeats 4000000 in
set_option maxRecDepth 100000 in
theorem v_X5_setWhole (l : Launch) {E : GE} {w : Wd} {a r b s : Nat} {z2 : Int} (h1 : WS w a r) (h2 : WA w b s z2) (hrs : r ≠ s) : Sp E l yX5_setWhole cX5_setWhole 2 none 1 (0) (0) [.ref a, .ref b] w (fun r' w' => r' = none ∧ WA w' a r z2 ∧ FrW w w' a r) := by
  refine sp_intro [some (.ref a), some (.ref b)] rfl (Nat.le_of_ble_eq_true rfl) pn_X5 ?_
  intro X C hRm hl hnm hQ
  obtain ⟨hRf, hRl, hRc, hRs⟩ := hRm
  refine g_wf (fun hwf => ?_)
  obtain ⟨f, u, bl, hO, hR, -, -, -⟩ := id h1
  obtain ⟨g, v, bm, k2, n2⟩ := h2.ra
  obtain ⟨hO2, hR2, hg, hbm⟩ := id k2
  have hne := oI_ne hO hR
  have hn12 := oI_ne hO hR2
  have hn21 := oI_ne hO2 hR
  have hcp : ∀ i, i < 18 → cpyI g f (0 : Int).toNat (0 : Int).toNat (18 : Int).toNat i = g i := fun i hi => by
    show (if 0 ≤ i ∧ i < 0 + 18 then g (0 + (i - 0)) else f i) = g i
    rw [if_pos ⟨Nat.zero_le _, by omega⟩, Nat.zero_add, Nat.sub_zero]
  have hW9 : WN (cpyI g f (0 : Int).toNat (0 : Int).toNat (18 : Int).toNat) v bm z2 := by
    generalize cpyI g f (0 : Int).toNat (0 : Int).toNat (18 : Int).toNat = c at hcp
    have hV : V18 c = V18 g := nv_congr hcp
    obtain ⟨⟨q1, q2, q3, q4⟩, q5⟩ := n2
    refine ⟨⟨fun i hi => by rw [hcp i hi]; exact q1 i hi, q2, fun i h3 h4 => by rw [hcp i h4]; exact q3 i h3 h4, fun h3 => by rw [hcp _ (by omega)]; exact q4 h3⟩, ?_⟩
    rw [hV]; exact q5
  refine g_aload_n C dX5_setWhole_0 rfl ?_
  refine g_get (ci := 7) C rfl inTX5 0 (by decide) fl_RX5_9 rfl hO2 rfl dX5_setWhole_1 ?_
  refine g_iconst C dX5_setWhole_4 ?_
  refine g_aload_n C dX5_setWhole_5 rfl ?_
  refine g_get (ci := 7) C rfl inTX5 0 (by decide) fl_RX5_9 rfl hO rfl dX5_setWhole_6 ?_
  refine g_iconst C dX5_setWhole_9 ?_
  refine g_bipush C dX5_setWhole_10 (by decide) ?_
  refine g_acopyI C (f := g) (g := f) ⟨hR2, hR, by omega⟩ ml_RX5_34 (by omega) (by omega) (Nat.le_of_ble_eq_true rfl) dX5_setWhole_12 ?_
  refine g_aload_n C dX5_setWhole_15 rfl ?_
  refine g_aload_n C dX5_setWhole_16 rfl ?_
  refine g_get (ci := 7) C rfl inTX5 1 (by decide) fl_RX5_17 rfl (by rw [wset_n hn21]; exact hO2) rfl dX5_setWhole_17 ?_
  refine g_put (ci := 7) C rfl inTX5 tyX5 tyX5_ok nmX5 1 (by decide) fl_RX5_17 rfl rfl (by rw [wset_n hne]; exact hO) (Nat.le_of_ble_eq_true rfl) rfl rfl dX5_setWhole_20 ?_
  generalize hX : cpyI g f (0 : Int).toNat (0 : Int).toNat (18 : Int).toNat = c9 at *
  have hOa : (wset (wset w r (true, eI 18 c9)) a (true, eO 7 [.ref r, iI (v : Int), iI bl])).2 a = some (true, eO 7 [.ref r, iI (v : Int), iI bl]) := wset_s
  have hOb : ∃ vv : Nat, (wset (wset w r (true, eI 18 c9)) a (true, eO 7 [.ref r, iI (v : Int), iI bl])).2 b = some (true, oW s vv bm) := by
    by_cases c : b = a
    · rw [c, wset_s]
      rw [c] at hO2
      rw [hO] at hO2
      exact absurd (oW_inj hO2) hrs
    · exact ⟨v, by rw [wset_n c, wset_n hn21]; exact hO2⟩
  obtain ⟨vv, hOb⟩ := hOb
  refine g_aload_n C dX5_setWhole_23 rfl ?_
  refine g_aload_n C dX5_setWhole_24 rfl ?_
  refine g_get (ci := 7) C rfl inTX5 2 (by decide) fl_RX5_13 rfl hOb rfl dX5_setWhole_25 ?_
  refine g_put (ci := 7) C rfl inTX5 tyX5 tyX5_ok nmX5 2 (by decide) fl_RX5_13 rfl rfl hOa (Nat.le_of_ble_eq_true rfl) (by rcases hbm with c | c <;> (rw [c]; rfl)) (by rcases hbm with c | c <;> (rw [c]; rfl)) dX5_setWhole_28 ?_
  exact g_return C hQ dX5_setWhole_31 (Nat.le_refl _) (Nat.le_refl _) ⟨rfl, ⟨_, v, bm, wset_s, by rw [wset_n (Ne.symm hne), wset_n (Ne.symm hne)]; exact wset_s, hW9⟩, (((FrW.rf w a r).set (Or.inr rfl) _).set (Or.inl rfl) _).set (Or.inl rfl) _⟩
set_option maxHeartbeats 4000000 in
set_option maxRecDepth 100000 in
theorem v_X5_setNumber (l : Launch) {E : GE} {w : Wd} {a r : Nat} {x : Int} (hW : WS w a r) (hx : -9223372036854775808 < x ∧ x < 9223372036854775808) : Sp E l yX5_setNumber cX5_setNumber 6 none 2 (0) (0) [.ref a, jJ x] w (fun r' w' => r' = none ∧ WA w' a r x ∧ FrW w w' a r) := by
  refine sp_intro [some (.ref a), some (jJ x), none, none, none, none] rfl (Nat.le_of_ble_eq_true rfl) pn_X5 ?_
  intro X C hRm hl hnm hQ
  obtain ⟨hRf, hRl, hRc, hRs⟩ := hRm
  refine g_wf (fun hwf => ?_)
  obtain ⟨f, u, bl, hO, hR, -, -, -⟩ := id hW
  have hne := oI_ne hO hR
  refine g_aload_n C dX5_setNumber_0 rfl ?_
  refine g_callV C (c_X5_clear _ hO hR) (ci := 7) rfl hO rfl ml_RX5_25 im_yX5_clear se_RX5_yX5_clear in_RX5 co_yX5_clear hd_X5_clear rfl ⟨by omega, by omega⟩ rfl (Nat.le_of_ble_eq_true rfl) ⟨by omega, by omega⟩ dX5_setNumber_1 (fun v1 w1 hp1 => ?_)
  obtain ⟨rfl, g1, hO1, hR1, hg1, fr1⟩ := hp1
  have J16 : ∀ q : Int, (q = 1 ∧ x < 0 ∨ q = 0 ∧ 0 ≤ x) → G E X 6 16 [some (.ref a), some (jJ x), none, none, none, none] [iI q, .ref a] w1 0 0 := by
    intro q hq
    refine g_put (ci := 7) C rfl inTX5 tyX5 tyX5_ok nmX5 2 (by decide) fl_RX5_13 rfl rfl hO1 (Nat.le_of_ble_eq_true rfl) (by rcases hq with ⟨c, -⟩ | ⟨c, -⟩ <;> (rw [c]; rfl)) (by rcases hq with ⟨c, -⟩ | ⟨c, -⟩ <;> (rw [c]; rfl)) dX5_setNumber_16 ?_
    obtain ⟨w2, hw0⟩ : ∃ w2, w2 = wset w1 a (true, eO 7 [.ref r, iI 0, iI q]) := ⟨_, rfl⟩
    refine g_eqw (w' := w2) hw0.symm ?_
    have hO2 : w2.2 a = some (true, eO 7 [.ref r, iI 0, iI q]) := by rw [hw0]; exact wset_s
    have hR2 : w2.2 r = some (true, eI 18 g1) := by rw [hw0, wset_n (Ne.symm hne)]; exact hR1
    have fr2 : FrW w w2 a r := by rw [hw0]; exact fr1.set (Or.inl rfl) _
    have hq01 : q = 0 ∨ q = 1 := by omega
    have J32 : G E X 6 32 [some (.ref a), some (jJ x), none, none, none, none] [jJ (aB x)] w2 0 0 := by
      refine g_lstore_n C dX5_setNumber_32 (by decide) rfl ?_
      refine g_iconst C dX5_setNumber_33 ?_
      refine g_istore C dX5_setNumber_34 (by decide) rfl ?_
      have J73 : ∀ (k : Nat) (lf : Int) (h : Nat → Int), DC h → V18 h = aB x → G E X 6 73 [some (.ref a), some (jJ x), none, some (jJ lf), none, some (iI (k : Int))] [] (wset w2 r (true, eI 18 h)) 0 0 := by
        intro k lf h hdh hV
        have hOk : (wset w2 r (true, eI 18 h)).2 a = some (true, eO 7 [.ref r, iI 0, iI q]) := by rw [wset_n hne]; exact hO2
        refine g_aload_n C dX5_setNumber_73 rfl ?_
        refine g_bipush C dX5_setNumber_74 (by decide) ?_
        refine g_callV C (c_X5_trim _ (p := 18) hOk wset_s hdh (Nat.le_refl _) (fun i h3 h4 => by omega) hq01) (ci := 7) rfl hOk rfl ml_RX5_30 im_yX5_trim se_RX5_yX5_trim in_RX5 co_yX5_trim hd_X5_trim rfl ⟨by omega, by omega⟩ rfl (Nat.le_of_ble_eq_true rfl) ⟨by omega, by omega⟩ dX5_setNumber_76 (fun v76 w76 hp76 => ?_)
        obtain ⟨rfl, u', hw9, hO9, fr9⟩ := hp76
        exact g_return C hQ dX5_setNumber_79 (Nat.le_refl _) (Nat.le_refl _) ⟨rfl, by
          have k9 : RA w76 a r h u' (if 0 < u' then q else 0) := ⟨hO9, by rw [fr9.2 r (Ne.symm hne)]; exact wset_s, hw9, by split <;> omega⟩
          have := k9.wa hq01
          rw [hV] at this
          refine this.eq ?_
          unfold aB
          split <;> split <;> omega, ⟨fr9.1.trans fr2.1, fun y h3 h4 => by rw [fr9.2 y h3, wset_n h4]; exact fr2.2 y h3 h4⟩⟩
      suffices hh : G E X 6 36 [some (.ref a), some (jJ x), none, some (jJ (aB x)), none, some (iI ((0 : Nat) : Int))] [] (wset w2 r (true, eI 18 g1)) 0 0 by rw [wset_id hR2] at hh; exact hh
      refine g_loop (σ := Nat × Int × (Nat → Int)) (fun t => t.1 ≤ 18 ∧ 0 ≤ t.2.1 ∧ (t.1 = 0 → t.2.1 < 9223372036854775808) ∧ (t.1 = 1 → t.2.1 < 34359738368) ∧ (t.1 = 2 → t.2.1 < 128) ∧ (3 ≤ t.1 → t.2.1 = 0) ∧ DC t.2.2 ∧ (∀ i, t.1 ≤ i → i < 18 → t.2.2 i = 0) ∧ nv B28 t.2.2 t.1 + t.2.1 * B28 ^ t.1 = aB x) (fun t => G E X 6 36 [some (.ref a), some (jJ x), none, some (jJ t.2.1), none, some (iI (t.1 : Int))] [] (wset w2 r (true, eI 18 t.2.2)) 0 0) (fun t => 18 - t.1) ?_ (0, aB x, g1) ⟨by dsimp only; omega, by dsimp only; unfold aB; split <;> omega, fun _ => by dsimp only; unfold aB; split <;> omega, fun c => by dsimp only at c; omega, fun c => by dsimp only at c; omega, fun c => by dsimp only at c; omega, fun i hi => by dsimp only; rw [hg1 i hi]; decide, fun i _ hi => hg1 i hi, by show (0 : Int) + aB x * B28 ^ 0 = aB x; rw [Int.pow_zero]; omega⟩
      rintro ⟨j, lf, h⟩ hq9 ih
      obtain ⟨hj, hl0, hl1, hl2, hl3, hl4, hdh, hhi, hv⟩ := hq9
      dsimp only at hj hl0 hl1 hl2 hl3 hl4 hdh hhi hv ⊢
      have hOk : (wset w2 r (true, eI 18 h)).2 a = some (true, eO 7 [.ref r, iI 0, iI q]) := by rw [wset_n hne]; exact hO2
      have hVk : lf = 0 → V18 h = aB x := fun c => by
        rw [c, Int.zero_mul, Int.add_zero] at hv
        rw [← hv]
        exact nv_zeros hj hhi
      have hm28 := mod28 lf
      have hd28e : lf / B28 = lf / 268435456 := rfl
      refine g_iload C dX5_setNumber_36 rfl ?_
      refine g_bipush C dX5_setNumber_38 (by decide) ?_
      refine g_icmp_ge (tgt := 73) C dX5_setNumber_40 (by decide) (by omega) (by omega) (fun h40 => ?_) (fun h40 => ?_)
      · exact J73 j lf h hdh (hVk (by omega))
      · refine g_lload_n C dX5_setNumber_43 rfl ?_
        refine g_lconst (z := 0) C dX5_setNumber_44 (by decide) ?_
        refine g_lcmp C dX5_setNumber_45 (by omega) (by omega) (fun c45 hc45 => ?_)
        refine g_if_eq (tgt := 73) C dX5_setNumber_46 (by decide) (by omega) (fun h46 => ?_) (fun h46 => ?_)
        · exact J73 j lf h hdh (hVk (by omega))
        · refine g_aload_n C dX5_setNumber_49 rfl ?_
          refine g_get (ci := 7) C rfl inTX5 0 (by decide) fl_RX5_9 rfl hOk rfl dX5_setNumber_50 ?_
          refine g_iload C dX5_setNumber_53 rfl ?_
          refine g_lload_n C dX5_setNumber_55 rfl ?_
          refine g_ldc2 (z := 268435455) C kj_RX5_28 (by decide) dX5_setNumber_56 ?_
          refine g_land (z := lf % B28) C dX5_setNumber_59 (j_mask 28 (by omega) mask28) ?_
          refine g_l2i C dX5_setNumber_60 ?_
          refine g_iastoreN (j) C wset_s (by omega) (by omega) dX5_setNumber_61 ?_
          rw [wset_set]
          refine g_lload_n C dX5_setNumber_62 rfl ?_
          refine g_bipush C dX5_setNumber_63 (by decide) ?_
          refine g_lushr (z := lf / B28) C dX5_setNumber_65 (j_ushr 28 (by omega) (by omega) (by decide)) ?_
          refine g_lstore_n C dX5_setNumber_66 (by decide) rfl ?_
          refine g_iinc C dX5_setNumber_67 rfl (by decide) rfl ?_
          refine g_goto (tgt := 36) C dX5_setNumber_70 (by decide) ?_
          refine ih (j + 1, lf / B28, iup h j (lf % B28)) ⟨by dsimp only; omega, by dsimp only; omega, fun c => by dsimp only at c; omega, fun c => by dsimp only at c ⊢; omega, fun c => by dsimp only at c ⊢; omega, fun c => by dsimp only at c ⊢; omega, hdh.up _ hm28, fun i h3 h4 => by dsimp only at h3 ⊢; rw [iup_n (by omega)]; exact hhi i (by omega) h4, dig_step (by decide) hv⟩ (by dsimp only; omega)
    refine g_aload_n C dX5_setNumber_19 rfl ?_
    refine g_get (ci := 7) C rfl inTX5 2 (by decide) fl_RX5_13 rfl hO2 rfl dX5_setNumber_20 ?_
    refine g_if_eq (tgt := 31) C dX5_setNumber_23 (by decide) (by omega) (fun h23 => ?_) (fun h23 => ?_)
    · refine g_lload_n C dX5_setNumber_31 rfl ?_
      first | exact g_eq rfl (by rw [show aB x = -x by unfold aB; rw [if_pos (by omega)]]) J32 | exact g_eq rfl (by rw [show aB x = x by unfold aB; rw [if_neg (by omega)]]) J32
    · refine g_lload_n C dX5_setNumber_26 rfl ?_
      refine g_lneg C dX5_setNumber_27 ?_
      refine g_goto (tgt := 32) C dX5_setNumber_28 (by decide) ?_
      first | exact g_eq rfl (by rw [show aB x = -x by unfold aB; rw [if_pos (by omega)]]) J32 | exact g_eq rfl (by rw [show aB x = x by unfold aB; rw [if_neg (by omega)]]) J32
  refine g_aload_n C dX5_setNumber_4 rfl ?_
  refine g_lload_n C dX5_setNumber_5 rfl ?_
  refine g_lconst (z := 0) C dX5_setNumber_6 (by decide) ?_
  refine g_lcmp C dX5_setNumber_7 (by omega) (by omega) (fun c7 hc7 => ?_)
  refine g_if_ge (tgt := 15) C dX5_setNumber_8 (by decide) (by omega) (fun h8 => ?_) (fun h8 => ?_)
  · refine g_iconst C dX5_setNumber_15 ?_
    exact J16 _ (by omega)
  · refine g_iconst C dX5_setNumber_11 ?_
    refine g_goto (tgt := 16) C dX5_setNumber_12 (by decide) ?_
    exact J16 _ (by omega)
