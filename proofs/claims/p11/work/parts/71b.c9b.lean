/-! numbers as rows of digits: written and read again -/
theorem SBt.frW {u u' : Wd} {a v n m b r : Nat} {f : Nat → Int} (h : SBt u a v n m f) (x : FrW u u' b r) (h1 : a ≠ b ∧ a ≠ r ∧ v ≠ b ∧ v ≠ r) : SBt u' a v n m f := by
  obtain ⟨mb, k1, k2, k3⟩ := h
  exact ⟨mb, by rw [x.2 a h1.1 h1.2.1]; exact k1, by rw [x.2 v h1.2.2.1 h1.2.2.2]; exact k2, k3⟩
def dgc (c : Int) : Int := if c ≤ 57 then c - 48 else c - 87
def by8 (c : Int) : Int := c % 256
def rdV (dg : Int → Int) (b : Int) (f : Nat → Int) : Nat → Int
  | 0 => 0
  | i + 1 => rdV dg b f i * b + dg (f i)
def loV (dg : Int → Int) (b : Int) (g : Nat → Int) : Nat → Int
  | 0 => 0
  | k + 1 => loV dg b g k + dg (g k) * b ^ k
theorem loV_cg {dg : Int → Int} {b : Int} {g g' : Nat → Int} : ∀ k, (∀ j, j < k → g j = g' j) → loV dg b g k = loV dg b g' k
  | 0, _ => rfl
  | k + 1, h => by
    show loV dg b g k + dg (g k) * b ^ k = loV dg b g' k + dg (g' k) * b ^ k
    rw [loV_cg k (fun j hj => h j (by omega)), h k (by omega)]
theorem loV_0 {dg : Int → Int} {b : Int} {g : Nat → Int} (hb : 0 ≤ b) : ∀ k, (∀ j, j < k → 0 ≤ dg (g j)) → 0 ≤ loV dg b g k
  | 0, _ => Int.le_refl 0
  | k + 1, h => by
    show 0 ≤ loV dg b g k + dg (g k) * b ^ k
    have h1 := loV_0 hb k (fun j hj => h j (by omega))
    have h2 := Int.mul_nonneg (h k (by omega)) (Int.pow_nonneg (m := k) hb)
    omega
theorem rd_lo {dg : Int → Int} {b : Int} {f g : Nat → Int} {n : Nat} (h : ∀ j, j < n → f j = g (n - 1 - j)) : ∀ i, i ≤ n → rdV dg b f i * b ^ (n - i) + loV dg b g (n - i) = loV dg b g n
  | 0, _ => by
    show 0 * b ^ (n - 0) + loV dg b g (n - 0) = _
    rw [Nat.sub_zero, Int.zero_mul, Int.zero_add]
  | i + 1, hi => by
    have ih := rd_lo (dg := dg) (b := b) h i (by omega)
    obtain ⟨k, hk⟩ : ∃ k, n - i = k + 1 := ⟨n - i - 1, by omega⟩
    have hf := h i (by omega)
    rw [show n - 1 - i = k by omega] at hf
    rw [hk] at ih
    rw [show n - (i + 1) = k by omega]
    show (rdV dg b f i * b + dg (f i)) * b ^ k + loV dg b g k = _
    have ih' : rdV dg b f i * b ^ (k + 1) + (loV dg b g k + dg (g k) * b ^ k) = loV dg b g n := ih
    rw [hf, ← ih', Int.pow_succ, Int.add_mul, Int.mul_assoc, Int.mul_comm b (b ^ k)]
    omega
def TXv (dg : Int → Int) (b : Int) (f : Nat → Int) (n : Nat) (z : Int) : Prop := (∀ i, i < n → 0 ≤ dg (f i) ∧ dg (f i) < b) ∧ (∀ i, i ≤ n → 0 ≤ rdV dg b f i ∧ rdV dg b f i ≤ z) ∧ rdV dg b f n = z
theorem rdV_0 {dg : Int → Int} {b : Int} {f : Nat → Int} (hb : 0 ≤ b) : ∀ i, (∀ j, j < i → 0 ≤ dg (f j)) → 0 ≤ rdV dg b f i
  | 0, _ => Int.le_refl 0
  | i + 1, h => by
    show 0 ≤ rdV dg b f i * b + dg (f i)
    have h1 := Int.mul_nonneg (rdV_0 hb i (fun j hj => h j (by omega))) hb
    have h2 := h i (by omega)
    omega
theorem txv_of {dg : Int → Int} {b z : Int} {f g : Nat → Int} {n : Nat} (hb : 1 ≤ b) (h : ∀ j, j < n → f j = g (n - 1 - j)) (hd : ∀ i, i < n → 0 ≤ dg (g i) ∧ dg (g i) < b) (hz : loV dg b g n = z) : TXv dg b f n z := by
  have hf : ∀ i, i < n → 0 ≤ dg (f i) ∧ dg (f i) < b := fun i hi => by rw [h i hi]; exact hd _ (by omega)
  have r0 : ∀ i, i ≤ n → 0 ≤ rdV dg b f i := fun i hi => rdV_0 (by omega) i (fun j hj => (hf j (by omega)).1)
  refine ⟨hf, fun i hi => ⟨r0 i hi, ?_⟩, ?_⟩
  · have e := rd_lo (dg := dg) (b := b) h i hi
    have l := loV_0 (dg := dg) (b := b) (g := g) (by omega) (n - i) (fun j hj => (hd j (by omega)).1)
    have p := Int.pow_pos (m := n - i) (show 0 < b by omega)
    have m := Int.mul_le_mul_of_nonneg_left (show (1 : Int) ≤ b ^ (n - i) by omega) (r0 i hi)
    rw [Int.mul_one] at m
    omega
  · have e := rd_lo (dg := dg) (b := b) h n (Nat.le_refl n)
    rw [Nat.sub_self, Int.pow_zero, Int.mul_one] at e
    have e0 : loV dg b g 0 = 0 := rfl
    omega
theorem lo_end {b z zz lo : Int} {k : Nat} (h : zz * b ^ k + lo = z) (h0 : 0 ≤ zz) (hlo : 0 ≤ lo) (hb : 0 < b) (hz : z < b ^ k) : zz = 0 := by
  by_cases q : zz = 0
  · exact q
  · have p := Int.pow_pos (m := k) hb
    have m := Int.mul_le_mul_of_nonneg_right (show (1 : Int) ≤ zz by omega) (show (0 : Int) ≤ b ^ k by omega)
    rw [Int.one_mul] at m
    omega
theorem lo_step {b z zz lo q d : Int} {i : Nat} (h1 : q * b + d = zz) (h2 : zz * b ^ i + lo = z) : q * b ^ (i + 1) + (lo + d * b ^ i) = z := by
  rw [← h2, ← h1, Int.pow_succ, Int.add_mul, Int.mul_assoc, Int.mul_comm b (b ^ i)]
  omega
theorem p_le2 {b : Int} (hb : 2 ≤ b) : ∀ k : Nat, (2 : Int) ^ k ≤ b ^ k
  | 0 => by rw [Int.pow_zero, Int.pow_zero]; exact Int.le_refl 1
  | k + 1 => by
    rw [Int.pow_succ, Int.pow_succ]
    exact Int.mul_le_mul (p_le2 hb k) hb (by decide) (Int.pow_nonneg (by omega))
theorem cap_t {b : Int} (hb : 2 ≤ b) : B28 ^ 18 ≤ b ^ 504 := by
  have e : B28 ^ 18 = 2 ^ 504 := by decide +kernel
  rw [e]
  exact p_le2 hb 504
theorem cap_b : B28 ^ 18 = 256 ^ 63 := by decide +kernel
theorem NW.frY {ad : Nat → Nat} {w u : Wd} {a v W j : Nat} {z : Int} (h : NW ad w j z) (x : FrY w u a v) (hw : wF w) (hlt : ∀ t, 200 ≤ t → t ≤ 340 → ad t < W) (ha : W ≤ a) (hv : W ≤ v) (hj : j < 70) : NW ad u j z := by
  have l1 := hlt (200 + 2 * j) (by omega) (by omega)
  have l2 := hlt (201 + 2 * j) (by omega) (by omega)
  exact h.k (fun y e => by rw [x.2 _ (hw _ _ e) (by show ad (200 + 2 * j) ≠ a; omega) (by show ad (200 + 2 * j) ≠ v; omega)]; exact e) (fun y e => by rw [x.2 _ (hw _ _ e) (by show ad (201 + 2 * j) ≠ a; omega) (by show ad (201 + 2 * j) ≠ v; omega)]; exact e)
set_option maxHeartbeats 4000000 in
set_option maxRecDepth 100000 in
theorem t_X0_write (l : Launch) {K : KC} {E : GE} {w : Wd} {τ ad : Nat → Nat} (hN0 : NS τ ad w) {W0 : Wd} (hW0 : wF W0) (hlt : ∀ t, 200 ≤ t → t ≤ 340 → ad t < W0.1) (hK0 : KN τ W0 w) (hD : W0.2 (ad 110) = some (true, oD ad)) {a v n m : Nat} (hS : SBw w a v n m) (ha : W0.1 ≤ a) (hv : W0.1 ≤ v) (hm : 16 ≤ m ∧ m ≤ 1026) {j : Nat} (hj : 4 ≤ j ∧ j < 70) {rx : Int} (hrx : 2 ≤ rx ∧ rx ≤ 16) {z : Int} (hz : 0 ≤ z) (fz0 : NW ad W0 j z) : St K E l yX0_write cX0_write 6 none 6 (57) (2052) [.ref (ad 110), .ref a, .ref (wo ad j), iI rx] w (fun r' w' => ∃ (v' n' m' : Nat) (f' : Nat → Int), r' = none ∧ SBt w' a v' n' m' f' ∧ W0.1 ≤ v' ∧ n' ≤ 505 ∧ 16 ≤ m' ∧ m' ≤ 1026 ∧ NS τ ad w' ∧ KN τ W0 w' ∧ (∀ k, k < n' → 0 ≤ f' k ∧ f' k ≤ 127) ∧ TXv dgc rx f' n' z) := by
  refine st_intro [some (.ref (ad 110)), some (.ref a), some (.ref (wo ad j)), some (iI rx), none, none] rfl (Nat.le_of_ble_eq_true rfl) pn_X0 ?_
  intro X C hT hRm hl hnm hQ
  obtain ⟨hRf, hRl, hRc, hRs⟩ := hRm
  refine g_wf (fun hwf => ?_)
  have hN := hN0
  have hK := hK0
  have fz := hK0.nw hN0 hj fz0
  refine g_aload_n C dX0_write_0 rfl ?_
  refine g_iconst C dX0_write_1 ?_
  refine g_wf (fun hwf2 => ?_)
  refine t_callV C hT (c_J4_setLength_d00df _ hS (by omega)) (RcV.sb C hS) rfl ml_RX0_117 im_yJ4_setLength_d00df se_RJ4_yJ4_setLength_d00df in_RJ4 co_yJ4_setLength_d00df hd_J4_setLength_d00df rfl ⟨by omega, by omega⟩ rfl (Nat.le_of_ble_eq_true rfl) ⟨by omega, by omega⟩ dX0_write_2 (fun v2 w2 hp2 => ?_)
  obtain ⟨rfl, v2, hS2, hv2, fr2⟩ := hp2
  have hvv2 : W0.1 ≤ v2 := by have := hK0.1; omega
  replace hN := hN.frY fr2 hwf2 hlt ha hv
  replace hK := hK.frY hW0 fr2 hwf2 ha hv
  replace fz := fz.frY fr2 hwf2 hlt ha hv (by omega)
  obtain ⟨f2, hS2t⟩ := SBw.t hS2
  refine g_aload_n C dX0_write_5 rfl ?_
  refine g_get (ci := 2) C rfl inTX0 3 (by decide) fl_RX0_24 rfl (hK.ob hN (t := 110) (by omega) hD) rfl dX0_write_6 ?_
  refine g_aload_n C dX0_write_9 rfl ?_
  refine g_callV C (v_X5_setWhole _ (hN.W (j := 3) (by omega)) fz (hN.ne (j := 3) (k := j) (by omega) (by omega) (by omega))) (ci := 7) rfl (hN.W (j := 3) (by omega)).o rfl ml_RX0_43 im_yX5_setWhole se_RX5_yX5_setWhole in_RX5 co_yX5_setWhole hd_X5_setWhole rfl ⟨by omega, by omega⟩ rfl (Nat.le_of_ble_eq_true rfl) ⟨by omega, by omega⟩ dX0_write_10 (fun v10 w10 hp10 => ?_)
  obtain ⟨rfl, hws10, hfr10⟩ := hp10
  obtain ⟨hN10, v10w, hkj10⟩ := hN.stepV (j := 3) (by omega) hws10 hfr10
  replace fz := hkj10.nw hN (by omega) (by omega) fz
  replace hK := hK.tr (hkj10.kn (by omega))
  replace hN := hN10
  have sh := v10w
  have hS10 := hS2t.frW hfr10 (wo_ne hlt ha hvv2 (by omega))
  refine g_iconst C dX0_write_13 ?_
  refine g_istore C dX0_write_14 (by decide) rfl ?_
  clear hN0 hK0 hS hv
  have hcz : z < B28 ^ 18 := by have q := fz.cap; rw [aB_p hz] at q; exact q
  refine g_widen (k' := 0) (n' := 0) (by omega) (by omega) ?_
  refine g_loop (σ := Nat × Wd × Nat × Nat × Nat × Nat × Int × (Nat → Int)) (fun q => q.1 ≤ 504 ∧ SBt q.2.1 a q.2.2.1 q.1 q.2.2.2.1 q.2.2.2.2.2.2.2 ∧ W0.1 ≤ q.2.2.1 ∧ 16 ≤ q.2.2.2.1 ∧ q.2.2.2.1 ≤ 1026 ∧ 18 * q.2.2.2.2.1 + m ≤ q.2.2.2.1 ∧ q.2.2.2.2.2.1 + 2 * m ≤ 2 * q.2.2.2.1 ∧ NS τ ad q.2.1 ∧ KN τ W0 q.2.1 ∧ NW ad q.2.1 3 q.2.2.2.2.2.2.1 ∧ NW ad q.2.1 j z ∧ 0 ≤ q.2.2.2.2.2.2.1 ∧ q.2.2.2.2.2.2.1 * rx ^ q.1 + loV dgc rx q.2.2.2.2.2.2.2 q.1 = z ∧ ∀ k, k < q.1 → 0 ≤ q.2.2.2.2.2.2.2 k ∧ q.2.2.2.2.2.2.2 k ≤ 127 ∧ 0 ≤ dgc (q.2.2.2.2.2.2.2 k) ∧ dgc (q.2.2.2.2.2.2.2 k) < rx) (fun q => G E X 6 16 [some (.ref (ad 110)), some (.ref a), some (.ref (wo ad j)), some (iI rx), some (iI (q.1 : Int)), none] [] q.2.1 q.2.2.2.2.1 q.2.2.2.2.2.1) (fun q => 504 - q.1) ?_ (0, w10, v2, m, 0, 0, z, f2) ⟨by dsimp only; omega, hS10, hvv2, by dsimp only; omega, by dsimp only; omega, by dsimp only; omega, by dsimp only; omega, hN, hK, sh, fz, hz, by
    show z * rx ^ 0 + 0 = z
    rw [Int.pow_zero, Int.mul_one, Int.add_zero], fun k hk => absurd hk (Nat.not_lt_zero k)⟩
  clear hN hK hS10 hvv2 hS2 hS2t hwf2 hwf sh fz fr2 hfr10 hws10 v10w hN10 hkj10
  rintro ⟨i, u, v, mm, c, sl, zz, g⟩ hqq ih
  obtain ⟨hi, hS, hv, h16, hmm, hc, hs, hN, hK, sh, fz, hzz, heq, hdg⟩ := hqq
  dsimp only at hi hS hv h16 hmm hc hs hN hK sh fz hzz heq hdg ⊢
  have hnm : i ≤ mm := by obtain ⟨_, _, _, _, _, q⟩ := id hS; exact q
  have hz504 : 504 ≤ i → zz = 0 := fun h => lo_end heq hzz (loV_0 (by omega) i (fun k hk => (hdg k hk).2.2.1)) (by omega) (by rw [show i = 504 by omega]; exact Int.lt_of_lt_of_le hcz (cap_t hrx.1))
  have J84 : zz = 0 → G E X 6 84 [some (.ref (ad 110)), some (.ref a), some (.ref (wo ad j)), some (iI rx), some (iI (i : Int)), none] [] u c sl := by
    intro hzz0
    clear ih
    refine g_aload_n C dX0_write_84 rfl ?_
    refine g_callV C (c_X5_isBelow _ fz ) (ci := 7) rfl (hN.W (j := j) (by omega)).o rfl ml_RX0_83 im_yX5_isBelow se_RX5_yX5_isBelow in_RX5 co_yX5_isBelow hd_X5_isBelow rfl ⟨by omega, by omega⟩ rfl (Nat.le_of_ble_eq_true rfl) ⟨by omega, by omega⟩ dX0_write_85 (fun v85 w85 hp85 => ?_)
    obtain ⟨rfl, hw85⟩ := hp85
    subst w85
    rw [bI_f (show ¬ z < 0 by omega)]
    refine g_if_eq (tgt := 98) C dX0_write_88 (by decide) (by omega) (fun h88 => ?_) (fun h88 => ?_)
    · refine g_aload_n C dX0_write_98 rfl ?_
      refine g_wf (fun hwf99 => ?_)
      refine t_callV C hT (t_J4_reverse_43fcb _ hS (by omega)) (RcV.sb C hS.w) rfl ml_RX0_124 im_yJ4_reverse_43fcb se_RJ4_yJ4_reverse_43fcb in_RJ4 co_yJ4_reverse_43fcb hd_J4_reverse_43fcb rfl ⟨by omega, by omega⟩ rfl (Nat.le_of_ble_eq_true rfl) ⟨by omega, by omega⟩ dX0_write_99 (fun v99 w99 hp99 => ?_)
      obtain ⟨rfl, v99, f99, hS99, he99, hv99, fr99⟩ := hp99
      have hvv : W0.1 ≤ v99 := by have := hK.1; omega
      replace hN := hN.frY fr99 hwf99 hlt ha hv
      replace hK := hK.frY hW0 fr99 hwf99 ha hv
      have hlo : loV dgc rx g i = z := by rw [hzz0, Int.zero_mul, Int.zero_add] at heq; exact heq
      refine g_pop C dX0_write_102 rfl ?_
      exact g_return C hQ dX0_write_103 (by omega) (by omega) ⟨v99, i, mm, f99, rfl, hS99, hvv, by omega, by omega, by omega, hN, hK, fun k hk => by rw [he99 k hk]; exact ⟨(hdg _ (by omega)).1, (hdg _ (by omega)).2.1⟩, txv_of (by omega) he99 (fun k hk => (hdg k hk).2.2) hlo⟩
    · omega
  refine g_iload C dX0_write_16 rfl ?_
  refine g_sipush C dX0_write_18 (by decide) ?_
  refine g_icmp_ge (tgt := 84) C dX0_write_21 (by decide) (by omega) (by omega) (fun h21 => ?_) (fun h21 => ?_)
  · first
    | exact J84 (hz504 (by omega))
    | exact J84 (Classical.byContradiction fun q => h36 (bI_f q))
  · have J39 : G E X 6 39 [some (.ref (ad 110)), some (.ref a), some (.ref (wo ad j)), some (iI rx), some (iI (i : Int)), none] [] u c sl := by
      refine g_aload_n C dX0_write_39 rfl ?_
      refine g_get (ci := 2) C rfl inTX0 3 (by decide) fl_RX0_24 rfl (hK.ob hN (t := 110) (by omega) hD) rfl dX0_write_40 ?_
      refine g_iload_n C dX0_write_43 rfl ?_
      refine g_callV C (u_X5_divideSmall _ sh (y := rx) (by omega)) (ci := 7) rfl (hN.W (j := 3) (by omega)).o rfl ml_RX0_72 im_yX5_divideSmall se_RX5_yX5_divideSmall in_RX5 co_yX5_divideSmall hd_X5_divideSmall rfl ⟨by omega, by omega⟩ rfl (Nat.le_of_ble_eq_true rfl) ⟨by omega, by omega⟩ dX0_write_44 (fun v44 w44 hp44 => ?_)
      obtain ⟨d44, q44, rfl, d44a, d44b, hws44, q44a, q44b, q44c, hfr44⟩ := hp44
      obtain ⟨hN44, v44w, hkj44⟩ := hN.stepV (j := 3) (by omega) hws44 hfr44
      replace fz := hkj44.nw hN (by omega) (by omega) fz
      replace hK := hK.tr (hkj44.kn (by omega))
      replace hN := hN44
      have sh := v44w
      have hS44 := hS.frW hfr44 (wo_ne hlt ha hv (by omega))
      obtain ⟨gr1, gr2, gr3, gr4⟩ := grow2 hnm h16 (by omega) hmm hc hs
      have hq0 := q44b hzz
      have hq1 : q44 * rx + d44 = zz := by rw [aB_p hq0, aB_p hzz] at q44a; exact q44a
      refine g_istore C dX0_write_47 (by decide) rfl ?_
      have J73 : ∀ y : Int, 0 ≤ y ∧ y ≤ 127 ∧ dgc y = d44 → G E X 6 73 [some (.ref (ad 110)), some (.ref a), some (.ref (wo ad j)), some (iI rx), some (iI (i : Int)), some (iI d44)] [iI y, .ref a] w44 c sl := by
        intro y hy
        refine g_i2c (z := y) C dX0_write_73 (i2c_n hy.1 (by omega)) ?_
        refine g_wf (fun hwf74 => ?_)
        refine t_callV C hT (t_J4_append_cf468 _ hS44 (x := y) ⟨hy.1, hy.2.1⟩ (by omega) (by omega)) (RcV.sb C hS44.w) rfl ml_RX0_120 im_yJ4_append_cf468 se_RJ4_yJ4_append_cf468 in_RJ4 co_yJ4_append_cf468 hd_J4_append_cf468 rfl ⟨by omega, by omega⟩ rfl (Nat.le_of_ble_eq_true rfl) ⟨by omega, by omega⟩ dX0_write_74 (fun v74 w74 hp74 => ?_)
        obtain ⟨rfl, v74, f74, hS74, he74, hx74, hv74, fr74⟩ := hp74
        have hvv : W0.1 ≤ v74 := by have := hK.1; omega
        replace hN := hN.frY fr74 hwf74 hlt ha hv
        replace hK := hK.frY hW0 fr74 hwf74 ha hv
        replace sh := sh.frY fr74 hwf74 hlt ha hv (by omega)
        replace fz := fz.frY fr74 hwf74 hlt ha hv (by omega)
        have e2 : q44 * rx ^ (i + 1) + loV dgc rx f74 (i + 1) = z := by
          have e1 : loV dgc rx f74 (i + 1) = loV dgc rx g i + d44 * rx ^ i := by
            show loV dgc rx f74 i + dgc (f74 i) * rx ^ i = _
            rw [loV_cg i he74, hx74, hy.2.2]
          rw [e1]
          exact lo_step hq1 heq
        have hdg2 : ∀ k, k < i + 1 → 0 ≤ f74 k ∧ f74 k ≤ 127 ∧ 0 ≤ dgc (f74 k) ∧ dgc (f74 k) < rx := fun k hk => by
          by_cases q : k = i
          · rw [q, hx74, hy.2.2]; exact ⟨hy.1, hy.2.1, d44a, d44b⟩
          · rw [he74 k (by omega)]; exact hdg k (by omega)
        refine g_pop C dX0_write_77 rfl ?_
        refine g_iinc C dX0_write_78 rfl (by decide) rfl ?_
        refine g_goto (tgt := 16) C dX0_write_81 (by decide) ?_
        refine g_drop 5 ?_
        exact ih (i + 1, w74, v74, capG (i + 1) mm, c + gC (i + 1) mm, sl + gS (i + 1) mm, q44, f74) ⟨by dsimp only; omega, hS74, hvv, gr4, gr3, gr1, gr2, hN, hK, sh, fz, hq0, e2, hdg2⟩ (by dsimp only; omega)
      refine g_aload_n C dX0_write_49 rfl ?_
      refine g_iload C dX0_write_50 rfl ?_
      refine g_bipush C dX0_write_52 (by decide) ?_
      refine g_icmp_ge (tgt := 65) C dX0_write_54 (by decide) (by omega) (by omega) (fun h54 => ?_) (fun h54 => ?_)
      · refine g_bipush C dX0_write_65 (by decide) ?_
        refine g_iload C dX0_write_67 rfl ?_
        refine g_iadd C dX0_write_69 ?_
        refine g_bipush C dX0_write_70 (by decide) ?_
        refine g_isub C dX0_write_72 ?_
        exact J73 _ ⟨by omega, by omega, by unfold dgc; split <;> omega⟩
      · refine g_bipush C dX0_write_57 (by decide) ?_
        refine g_iload C dX0_write_59 rfl ?_
        refine g_iadd C dX0_write_61 ?_
        refine g_goto (tgt := 73) C dX0_write_62 (by decide) ?_
        exact J73 _ ⟨by omega, by omega, by unfold dgc; split <;> omega⟩
    refine g_iload C dX0_write_24 rfl ?_
    refine g_if_eq (tgt := 39) C dX0_write_26 (by decide) (by omega) (fun h26 => ?_) (fun h26 => ?_)
    · exact J39
    · refine g_aload_n C dX0_write_29 rfl ?_
      refine g_get (ci := 2) C rfl inTX0 3 (by decide) fl_RX0_24 rfl (hK.ob hN (t := 110) (by omega) hD) rfl dX0_write_30 ?_
      refine g_callV C (c_X5_isZero _ sh ) (ci := 7) rfl (hN.W (j := 3) (by omega)).o rfl ml_RX0_47 im_yX5_isZero se_RX5_yX5_isZero in_RX5 co_yX5_isZero hd_X5_isZero rfl ⟨by omega, by omega⟩ rfl (Nat.le_of_ble_eq_true rfl) ⟨by omega, by omega⟩ dX0_write_33 (fun v33 w33 hp33 => ?_)
      obtain ⟨rfl, hw33⟩ := hp33
      subst w33
      refine g_if_ne (tgt := 84) C dX0_write_36 (by decide) (by have := bI_01 (zz = 0); omega) (fun h36 => ?_) (fun h36 => ?_)
      · first
        | exact J84 (hz504 (by omega))
        | exact J84 (Classical.byContradiction fun q => h36 (bI_f q))
      · exact J39
set_option maxHeartbeats 4000000 in
set_option maxRecDepth 100000 in
theorem t_X0_isReadFrom (l : Launch) {K : KC} {E : GE} {w : Wd} {τ ad : Nat → Nat} (hN0 : NS τ ad w) {W0 : Wd} (hW0 : wF W0) (hlt : ∀ t, 200 ≤ t → t ≤ 340 → ad t < W0.1) (hK0 : KN τ W0 w) (hD : W0.2 (ad 110) = some (true, oD ad)) {a v n m : Nat} {f : Nat → Int} (hS : SBt w a v n m f) (ha : W0.1 ≤ a) (hv : W0.1 ≤ v) (hn : n ≤ 505 ∧ m ≤ 1026) {j : Nat} (hj : 4 ≤ j ∧ j < 70) {rx : Int} (hrx : 2 ≤ rx ∧ rx ≤ 16) {z : Int} (hz : 0 ≤ z) (fz0 : NW ad W0 j z) (hf : ∀ k, k < n → 0 ≤ f k ∧ f k ≤ 127) (hx : TXv dgc rx f n z) : St K E l yX0_isReadFrom cX0_isReadFrom 6 (some .boolean) 4 (0) (0) [.ref (ad 110), .ref a, .ref (wo ad j), iI rx] w (fun r' w' => r' = some (iI 1) ∧ SBt w' a v n m f ∧ NS τ ad w' ∧ KN τ W0 w') := by
  refine st_intro [some (.ref (ad 110)), some (.ref a), some (.ref (wo ad j)), some (iI rx), none, none] rfl (Nat.le_of_ble_eq_true rfl) pn_X0 ?_
  intro X C hT hRm hl hnm hQ
  obtain ⟨hRf, hRl, hRc, hRs⟩ := hRm
  refine g_wf (fun hwf => ?_)
  have hN := hN0
  have hK := hK0
  have hcz : z < B28 ^ 18 := by have q := fz0.cap; rw [aB_p hz] at q; exact q
  refine g_aload_n C dX0_isReadFrom_0 rfl ?_
  refine g_get (ci := 2) C rfl inTX0 0 (by decide) fl_RX0_12 rfl (hK.ob hN (t := 110) (by omega) hD) rfl dX0_isReadFrom_1 ?_
  refine g_lconst (z := 0) C dX0_isReadFrom_4 (by decide) ?_
  refine g_callV C (v_X5_setNumber _ (hN.W (j := 0) (by omega)) (x := 0) (by omega)) (ci := 7) rfl (hN.W (j := 0) (by omega)).o rfl ml_RX0_98 im_yX5_setNumber se_RX5_yX5_setNumber in_RX5 co_yX5_setNumber hd_X5_setNumber rfl ⟨by omega, by omega⟩ rfl (Nat.le_of_ble_eq_true rfl) ⟨by omega, by omega⟩ dX0_isReadFrom_5 (fun v5 w5 hp5 => ?_)
  obtain ⟨rfl, hws5, hfr5⟩ := hp5
  obtain ⟨hN5, v5w, hkj5⟩ := hN.stepV (j := 0) (by omega) hws5 hfr5
  replace hK := hK.tr (hkj5.kn (by omega))
  replace hN := hN5
  have v0 := v5w
  have hS5 := hS.frW hfr5 (wo_ne hlt ha hv (by omega))
  refine g_iconst C dX0_isReadFrom_8 ?_
  refine g_istore C dX0_isReadFrom_9 (by decide) rfl ?_
  clear hN0 hK0 hS
  refine g_loop (σ := Nat × Wd) (fun q => q.1 ≤ n ∧ SBt q.2 a v n m f ∧ NS τ ad q.2 ∧ KN τ W0 q.2 ∧ NW ad q.2 0 (rdV dgc rx f q.1)) (fun q => G E X 6 11 [some (.ref (ad 110)), some (.ref a), some (.ref (wo ad j)), some (iI rx), some (iI (q.1 : Int)), none] [] q.2 0 0) (fun q => n - q.1) ?_ (0, w5) ⟨by dsimp only; omega, hS5, hN, hK, v0⟩
  clear hN hK hS5 v0
  rintro ⟨i, u⟩ hqq ih
  obtain ⟨hi, hS, hN, hK, v0⟩ := hqq
  dsimp only at hi hS hN hK v0 ⊢
  refine g_iload C dX0_isReadFrom_11 rfl ?_
  refine g_aload_n C dX0_isReadFrom_13 rfl ?_
  refine t_callV C hT (c_J4_length_8abf5 _ hS.w) (RcV.sb C hS.w) rfl ml_RX0_132 im_yJ4_length_8abf5 se_RJ4_yJ4_length_8abf5 in_RJ4 co_yJ4_length_8abf5 hd_J4_length_8abf5 rfl ⟨by omega, by omega⟩ rfl (Nat.le_of_ble_eq_true rfl) ⟨by omega, by omega⟩ dX0_isReadFrom_14 (fun v14 w14 hp14 => ?_)
  obtain ⟨rfl, hw14⟩ := hp14
  subst w14
  refine g_icmp_ge (tgt := 65) C dX0_isReadFrom_17 (by decide) (by omega) (by omega) (fun h17 => ?_) (fun h17 => ?_)
  · have fzj := hK.nw hN hj fz0
    have hen : rdV dgc rx f i = z := by rw [show i = n by omega]; exact hx.2.2
    refine g_aload_n C dX0_isReadFrom_65 rfl ?_
    refine g_get (ci := 2) C rfl inTX0 0 (by decide) fl_RX0_12 rfl (hK.ob hN (t := 110) (by omega) hD) rfl dX0_isReadFrom_66 ?_
    refine g_aload_n C dX0_isReadFrom_69 rfl ?_
    refine g_callV C (c_X5_compareValue _ v0 fzj) (ci := 7) rfl (hN.W (j := 0) (by omega)).o rfl ml_RX0_139 im_yX5_compareValue se_RX5_yX5_compareValue in_RX5 co_yX5_compareValue hd_X5_compareValue rfl ⟨by omega, by omega⟩ rfl (Nat.le_of_ble_eq_true rfl) ⟨by omega, by omega⟩ dX0_isReadFrom_70 (fun v70 w70 hp70 => ?_)
    obtain ⟨⟨d70, rfl, hd70⟩, hw70⟩ := hp70
    subst w70
    refine g_if_ne (tgt := 80) C dX0_isReadFrom_73 (by decide) (by omega) (fun h73 => ?_) (fun h73 => ?_)
    · omega
    · refine g_iconst C dX0_isReadFrom_76 ?_
      refine g_goto (tgt := 81) C dX0_isReadFrom_77 (by decide) ?_
      exact g_zreturn C hQ dX0_isReadFrom_81 rfl (by omega) (by omega) ⟨rfl, hS, hN, hK⟩
  · refine g_aload_n C dX0_isReadFrom_20 rfl ?_
    refine g_iload C dX0_isReadFrom_21 rfl ?_
    refine t_callV C hT (t_J4_charAt_5068e _ hS (p := i) (by omega) (by omega) (hf i (by omega))) (RcV.sb C hS.w) rfl ml_RX0_135 im_yJ4_charAt_5068e se_RJ4_yJ4_charAt_5068e in_RJ4 co_yJ4_charAt_5068e hd_J4_charAt_5068e rfl ⟨by omega, by omega⟩ rfl (Nat.le_of_ble_eq_true rfl) ⟨by omega, by omega⟩ dX0_isReadFrom_23 (fun v23 w23 hp23 => ?_)
    obtain ⟨rfl, hw23⟩ := hp23
    subst w23
    have hfi := hf i (by omega)
    have hdi := hx.1 i (by omega)
    have h0 := (hx.2.1 i (by omega)).1
    have hi1 := hx.2.1 (i + 1) (by omega)
    have hbd : aB (rdV dgc rx f i) * rx + dgc (f i) < B28 ^ 18 := by rw [aB_p h0]; exact Int.lt_of_le_of_lt hi1.2 hcz
    generalize hy : f i = y at *
    refine g_istore C dX0_isReadFrom_26 (by decide) rfl ?_
    have J56 : ∀ x : Int, x = dgc y → G E X 6 56 [some (.ref (ad 110)), some (.ref a), some (.ref (wo ad j)), some (iI rx), some (iI (i : Int)), some (iI y)] [iI x, iI rx, .ref (wo ad 0)] u 0 0 := by
      intro x hx9
      subst hx9
      refine g_callV C (u_X5_multiplySmall _ v0 (by_ := rx) (mo := dgc y) (by omega) (by omega) (Or.inl h0) hbd) (ci := 7) rfl (hN.W (j := 0) (by omega)).o rfl ml_RX0_35 im_yX5_multiplySmall se_RX5_yX5_multiplySmall in_RX5 co_yX5_multiplySmall hd_X5_multiplySmall rfl ⟨by omega, by omega⟩ rfl (Nat.le_of_ble_eq_true rfl) ⟨by omega, by omega⟩ dX0_isReadFrom_56 (fun v56 w56 hp56 => ?_)
      obtain ⟨rfl, hws56, hfr56⟩ := hp56
      obtain ⟨hN56, v56w, hkj56⟩ := hN.stepV (j := 0) (by omega) hws56 hfr56
      replace hK := hK.tr (hkj56.kn (by omega))
      replace hN := hN56
      have v0 := v56w
      have hS56 := hS.frW hfr56 (wo_ne hlt ha hv (by omega))
      refine g_iinc C dX0_isReadFrom_59 rfl (by decide) rfl ?_
      refine g_goto (tgt := 11) C dX0_isReadFrom_62 (by decide) ?_
      refine g_drop 5 ?_
      exact ih (i + 1, w56) ⟨by dsimp only; omega, hS56, hN, hK, by
        show NW ad w56 0 (rdV dgc rx f i * rx + dgc (f i))
        rw [hy]
        exact v0⟩ (by dsimp only; omega)
    refine g_aload_n C dX0_isReadFrom_28 rfl ?_
    refine g_get (ci := 2) C rfl inTX0 0 (by decide) fl_RX0_12 rfl (hK.ob hN (t := 110) (by omega) hD) rfl dX0_isReadFrom_29 ?_
    refine g_iload_n C dX0_isReadFrom_32 rfl ?_
    refine g_iload C dX0_isReadFrom_33 rfl ?_
    refine g_bipush C dX0_isReadFrom_35 (by decide) ?_
    refine g_icmp_gt (tgt := 48) C dX0_isReadFrom_37 (by decide) (by omega) (by omega) (fun h37 => ?_) (fun h37 => ?_)
    · refine g_iload C dX0_isReadFrom_48 rfl ?_
      refine g_bipush C dX0_isReadFrom_50 (by decide) ?_
      refine g_isub C dX0_isReadFrom_52 ?_
      refine g_bipush C dX0_isReadFrom_53 (by decide) ?_
      refine g_iadd C dX0_isReadFrom_55 ?_
      exact J56 _ (by unfold dgc; split <;> omega)
    · refine g_iload C dX0_isReadFrom_40 rfl ?_
      refine g_bipush C dX0_isReadFrom_42 (by decide) ?_
      refine g_isub C dX0_isReadFrom_44 ?_
      refine g_goto (tgt := 56) C dX0_isReadFrom_45 (by decide) ?_
      exact J56 _ (by unfold dgc; split <;> omega)
set_option maxHeartbeats 4000000 in
set_option maxRecDepth 100000 in
theorem t_X0_areReadFromText (l : Launch) {K : KC} {E : GE} {w : Wd} {τ ad : Nat → Nat} (hN0 : NS τ ad w) (hD : w.2 (ad 110) = some (true, oD ad)) {j k : Nat} (hj : 4 ≤ j ∧ j < 70) (hk : 4 ≤ k ∧ k < 70) {rx : Int} (hrx : 2 ≤ rx ∧ rx ≤ 16) {z1 z2 : Int} (hz1 : 0 ≤ z1) (hz2 : 0 ≤ z2) (f1 : NW ad w j z1) (f2 : NW ad w k z2) : St K E l yX0_areReadFromText cX0_areReadFromText 6 (some .boolean) 7 (120) (4200) [.ref (ad 110), .ref (wo ad j), .ref (wo ad k), iI rx] w (fun r' w' => r' = some (iI 1) ∧ NS τ ad w' ∧ KN τ w w') := by
  refine st_intro [some (.ref (ad 110)), some (.ref (wo ad j)), some (.ref (wo ad k)), some (iI rx), none, none] rfl (Nat.le_of_ble_eq_true rfl) pn_X0 ?_
  intro X C hT hRm hl hnm hQ
  obtain ⟨hRf, hRl, hRc, hRs⟩ := hRm
  refine g_wf (fun hwf => ?_)
  refine g_new (ci := 1) C rfl inTJ4 tyJ4 tyJ4_ok kl_RX0_106 ib_RJ4 in_RJ4 (fs := [.null, iI 0, iI 0, iI 0]) (by intro j hj; repeat (first | rfl | (cases j; rfl) | (rename_i j; cases j; rfl) | omega)) (by omega) dX0_areReadFromText_0 ?_
  refine g_dup C dX0_areReadFromText_3 rfl ?_
  refine t_callI C hT (c_J4_init_da8c8 _ wpush_s) ml_RX0_108 im_yJ4_init_da8c8 in_RJ4 co_yJ4_init_da8c8 rfl hd_J4_init_da8c8 rfl ⟨by omega, by omega⟩ rfl (Nat.le_of_ble_eq_true rfl) ⟨by omega, by omega⟩ dX0_areReadFromText_4 (fun v4 w4 hp4 => ?_)
  obtain ⟨rfl, v4, hS4, hv4, fr4⟩ := hp4
  have hv4 : w.1 + 1 ≤ v4 := hv4
  have hf4 : Fr w w4 := FrY.fr ((Fr.rf w).push _) fr4 (Nat.le_refl _) (Nat.le_refl _)
  have hN4 := hN0.fr hf4 hwf
  have hK4 : KN τ w w4 := KN.fr hf4 hwf
  have hlt := hN0.lt hwf
  have hdl := hwf _ _ hD
  refine g_astore C dX0_areReadFromText_7 (by decide) rfl ?_
  refine g_aload_n C dX0_areReadFromText_9 rfl ?_
  refine g_aload C dX0_areReadFromText_10 rfl ?_
  refine g_aload_n C dX0_areReadFromText_12 rfl ?_
  refine g_iload_n C dX0_areReadFromText_13 rfl ?_
  refine t_callV C hT (t_X0_write _ hN4 hwf hlt hK4 hD hS4 (Nat.le_refl _) (by omega) (by omega) (j := j) hj (rx := rx) hrx hz1 f1) (RcV.ob (ci := 2) C rfl (hK4.ob hN4 (t := 110) (by omega) hD)) rfl ml_RX0_109 im_yX0_write se_RX0_yX0_write in_RX0 co_yX0_write hd_X0_write rfl ⟨by omega, by omega⟩ rfl (Nat.le_of_ble_eq_true rfl) ⟨by omega, by omega⟩ dX0_areReadFromText_14 (fun v14 w14 hp14 => ?_)
  obtain ⟨v14, n14, m14, g14, rfl, hS14, hv14, hn14, h16, hm14, hN14, hK14, hd14, hx14⟩ := hp14
  refine g_aload_n C dX0_areReadFromText_17 rfl ?_
  refine g_aload C dX0_areReadFromText_18 rfl ?_
  refine g_aload_n C dX0_areReadFromText_20 rfl ?_
  refine g_iload_n C dX0_areReadFromText_21 rfl ?_
  refine t_callV C hT (t_X0_isReadFrom _ hN14 hwf hlt hK14 hD hS14 (Nat.le_refl _) hv14 (by omega) (j := j) hj (rx := rx) hrx hz1 f1 hd14 hx14) (RcV.ob (ci := 2) C rfl (hK14.ob hN14 (t := 110) (by omega) hD)) rfl ml_RX0_128 im_yX0_isReadFrom se_RX0_yX0_isReadFrom in_RX0 co_yX0_isReadFrom hd_X0_isReadFrom rfl ⟨by omega, by omega⟩ rfl (Nat.le_of_ble_eq_true rfl) ⟨by omega, by omega⟩ dX0_areReadFromText_22 (fun v22 w22 hp22 => ?_)
  obtain ⟨rfl, hS22, hN22, hK22⟩ := hp22
  refine g_istore C dX0_areReadFromText_25 (by decide) rfl ?_
  refine g_aload_n C dX0_areReadFromText_27 rfl ?_
  refine g_aload C dX0_areReadFromText_28 rfl ?_
  refine g_aload_n C dX0_areReadFromText_30 rfl ?_
  refine g_iload_n C dX0_areReadFromText_31 rfl ?_
  refine t_callV C hT (t_X0_write _ hN22 hwf hlt hK22 hD hS22.w (Nat.le_refl _) hv14 (by omega) (j := k) hk (rx := rx) hrx hz2 f2) (RcV.ob (ci := 2) C rfl (hK22.ob hN22 (t := 110) (by omega) hD)) rfl ml_RX0_109 im_yX0_write se_RX0_yX0_write in_RX0 co_yX0_write hd_X0_write rfl ⟨by omega, by omega⟩ rfl (Nat.le_of_ble_eq_true rfl) ⟨by omega, by omega⟩ dX0_areReadFromText_32 (fun v32 w32 hp32 => ?_)
  obtain ⟨v32, n32, m32, g32, rfl, hS32, hv32, hn32, h16b, hm32, hN32, hK32, hd32, hx32⟩ := hp32
  refine g_iload C dX0_areReadFromText_35 rfl ?_
  refine g_if_eq (tgt := 55) C dX0_areReadFromText_37 (by decide) (by omega) (fun h37 => ?_) (fun h37 => ?_)
  · omega
  · refine g_aload_n C dX0_areReadFromText_40 rfl ?_
    refine g_aload C dX0_areReadFromText_41 rfl ?_
    refine g_aload_n C dX0_areReadFromText_43 rfl ?_
    refine g_iload_n C dX0_areReadFromText_44 rfl ?_
    refine t_callV C hT (t_X0_isReadFrom _ hN32 hwf hlt hK32 hD hS32 (Nat.le_refl _) hv32 (by omega) (j := k) hk (rx := rx) hrx hz2 f2 hd32 hx32) (RcV.ob (ci := 2) C rfl (hK32.ob hN32 (t := 110) (by omega) hD)) rfl ml_RX0_128 im_yX0_isReadFrom se_RX0_yX0_isReadFrom in_RX0 co_yX0_isReadFrom hd_X0_isReadFrom rfl ⟨by omega, by omega⟩ rfl (Nat.le_of_ble_eq_true rfl) ⟨by omega, by omega⟩ dX0_areReadFromText_45 (fun v45 w45 hp45 => ?_)
    obtain ⟨rfl, hS45, hN45, hK45⟩ := hp45
    refine g_if_eq (tgt := 55) C dX0_areReadFromText_48 (by decide) (by omega) (fun h48 => ?_) (fun h48 => ?_)
    · omega
    · refine g_iconst C dX0_areReadFromText_51 ?_
      refine g_goto (tgt := 56) C dX0_areReadFromText_52 (by decide) ?_
      exact g_zreturn C hQ dX0_areReadFromText_56 rfl (by omega) (by omega) ⟨rfl, hN45, hK45⟩
set_option maxHeartbeats 4000000 in
set_option maxRecDepth 100000 in
theorem t_X0_isReadFromBytes (l : Launch) {E : GE} {w : Wd} {τ ad : Nat → Nat} (hN0 : NS τ ad w) (hD : w.2 (ad 110) = some (true, oD ad)) {j : Nat} (hj : 4 ≤ j ∧ j < 70) {z : Int} (hz : 0 ≤ z) (fz0 : NW ad w j z) : Sp E l yX0_isReadFromBytes cX0_isReadFromBytes 3 (some .boolean) 3 (0) (0) [.ref (ad 110), .ref (wo ad j)] w (fun r' w' => r' = some (iI 1) ∧ NS τ ad w' ∧ KN τ w w') := by
  refine sp_intro [some (.ref (ad 110)), some (.ref (wo ad j)), none] rfl (Nat.le_of_ble_eq_true rfl) pn_X0 ?_
  intro X C hRm hl hnm hQ
  obtain ⟨hRf, hRl, hRc, hRs⟩ := hRm
  refine g_wf (fun hwf => ?_)
  have hN := hN0
  have hK : KN τ w w := KN.rf _ _
  have fz := fz0
  have hcz : z < B28 ^ 18 := by have q := fz0.cap; rw [aB_p hz] at q; exact q
  refine g_aload_n C dX0_isReadFromBytes_0 rfl ?_
  refine g_get (ci := 2) C rfl inTX0 3 (by decide) fl_RX0_24 rfl (hK.ob hN (t := 110) (by omega) hD) rfl dX0_isReadFromBytes_1 ?_
  refine g_aload_n C dX0_isReadFromBytes_4 rfl ?_
  refine g_callV C (v_X5_setWhole _ (hN.W (j := 3) (by omega)) fz (hN.ne (j := 3) (k := j) (by omega) (by omega) (by omega))) (ci := 7) rfl (hN.W (j := 3) (by omega)).o rfl ml_RX0_43 im_yX5_setWhole se_RX5_yX5_setWhole in_RX5 co_yX5_setWhole hd_X5_setWhole rfl ⟨by omega, by omega⟩ rfl (Nat.le_of_ble_eq_true rfl) ⟨by omega, by omega⟩ dX0_isReadFromBytes_5 (fun v5 w5 hp5 => ?_)
  obtain ⟨rfl, hws5, hfr5⟩ := hp5
  obtain ⟨hN5, v5w, hkj5⟩ := hN.stepV (j := 3) (by omega) hws5 hfr5
  replace fz := hkj5.nw hN (by omega) (by omega) fz
  replace hK := hK.tr (hkj5.kn (by omega))
  replace hN := hN5
  have sh := v5w
  refine g_iconst C dX0_isReadFromBytes_8 ?_
  refine g_istore_n C dX0_isReadFromBytes_9 (by decide) rfl ?_
  clear hN0
  obtain ⟨g0, hg0, hgb0⟩ := hN.2.2
  refine g_loop (σ := Nat × Wd × Int × (Nat → Int)) (fun q => q.1 ≤ 63 ∧ NS τ ad q.2.1 ∧ KN τ w q.2.1 ∧ q.2.1.2 (ad 340) = some (true, eB 63 q.2.2.2) ∧ bF q.2.2.2 ∧ NW ad q.2.1 3 q.2.2.1 ∧ 0 ≤ q.2.2.1 ∧ q.2.2.1 * 256 ^ q.1 + loV by8 256 q.2.2.2 q.1 = z) (fun q => G E X 3 10 [some (.ref (ad 110)), some (.ref (wo ad j)), some (iI (q.1 : Int))] [] q.2.1 0 0) (fun q => 63 - q.1) ?_ (0, w5, z, g0) ⟨by dsimp only; omega, hN, hK, hg0, hgb0, sh, hz, by
    show z * 256 ^ 0 + 0 = z
    rw [Int.pow_zero, Int.mul_one, Int.add_zero]⟩
  clear hN hK sh fz hg0 hgb0
  rintro ⟨i, u, zz, g⟩ hqq ih
  obtain ⟨hi, hN, hK, hg1, hg2, sh, hzz, heq⟩ := hqq
  dsimp only at hi hN hK hg1 hg2 sh hzz heq ⊢
  refine g_iload_n C dX0_isReadFromBytes_10 rfl ?_
  refine g_aload_n C dX0_isReadFromBytes_11 rfl ?_
  refine g_get (ci := 2) C rfl inTX0 4 (by decide) fl_RX0_27 rfl (hK.ob hN (t := 110) (by omega) hD) rfl dX0_isReadFromBytes_12 ?_
  refine g_alen C hg1 (Or.inr (Or.inl ⟨_, rfl⟩)) dX0_isReadFromBytes_15 ?_
  refine g_icmp_ge (tgt := 42) C dX0_isReadFromBytes_16 (by decide) (by omega) (by omega) (fun h16 => ?_) (fun h16 => ?_)
  · have hi63 : i = 63 := by omega
    subst hi63
    clear ih
    have hnn : ∀ c : Int, 0 ≤ by8 c ∧ by8 c < 256 := fun c => ⟨Int.emod_nonneg _ (by decide), Int.emod_lt_of_pos _ (by decide)⟩
    have hzz0 : zz = 0 := lo_end heq hzz (loV_0 (by decide) 63 (fun k _ => (hnn (g k)).1)) (by decide) (by rw [← cap_b]; exact hcz)
    have hlo : loV by8 256 g 63 = z := by rw [hzz0, Int.zero_mul, Int.zero_add] at heq; exact heq
    have hx : TXv by8 256 (fun q => g (62 - q)) 63 z := txv_of (by decide) (fun q _ => rfl) (fun k _ => hnn (g k)) hlo
    clear heq hlo sh
    refine g_aload_n C dX0_isReadFromBytes_42 rfl ?_
    refine g_get (ci := 2) C rfl inTX0 0 (by decide) fl_RX0_12 rfl (hK.ob hN (t := 110) (by omega) hD) rfl dX0_isReadFromBytes_43 ?_
    refine g_lconst (z := 0) C dX0_isReadFromBytes_46 (by decide) ?_
    refine g_callV C (v_X5_setNumber _ (hN.W (j := 0) (by omega)) (x := 0) (by omega)) (ci := 7) rfl (hN.W (j := 0) (by omega)).o rfl ml_RX0_98 im_yX5_setNumber se_RX5_yX5_setNumber in_RX5 co_yX5_setNumber hd_X5_setNumber rfl ⟨by omega, by omega⟩ rfl (Nat.le_of_ble_eq_true rfl) ⟨by omega, by omega⟩ dX0_isReadFromBytes_47 (fun v47 w47 hp47 => ?_)
    obtain ⟨rfl, hws47, hfr47⟩ := hp47
    obtain ⟨hN47, v47w, hkj47⟩ := hN.stepV (j := 0) (by omega) hws47 hfr47
    replace hK := hK.tr (hkj47.kn (by omega))
    replace hN := hN47
    have v0 := v47w
    have hg47 : w47.2 (ad 340) = some (true, eB 63 g) := hkj47.2 _ _ (by rw [hN.t 340 (by omega)]; omega) (by rw [hN.t 340 (by omega)]; omega) hg1
    refine g_aload_n C dX0_isReadFromBytes_50 rfl ?_
    refine g_get (ci := 2) C rfl inTX0 4 (by decide) fl_RX0_27 rfl (hK.ob hN (t := 110) (by omega) hD) rfl dX0_isReadFromBytes_51 ?_
    refine g_alen C hg47 (Or.inr (Or.inl ⟨_, rfl⟩)) dX0_isReadFromBytes_54 ?_
    refine g_iconst C dX0_isReadFromBytes_55 ?_
    refine g_isub C dX0_isReadFromBytes_56 ?_
    refine g_istore_n C dX0_isReadFromBytes_57 (by decide) rfl ?_
    refine g_loop (σ := Int × Wd) (fun q => -1 ≤ q.1 ∧ q.1 ≤ 62 ∧ NS τ ad q.2 ∧ KN τ w q.2 ∧ q.2.2 (ad 340) = some (true, eB 63 g) ∧ NW ad q.2 0 (rdV by8 256 (fun q => g (62 - q)) (62 - q.1).toNat)) (fun q => G E X 3 58 [some (.ref (ad 110)), some (.ref (wo ad j)), some (iI q.1)] [] q.2 0 0) (fun q => (q.1 + 1).toNat) ?_ (62, w47) ⟨by dsimp only; omega, by dsimp only; omega, hN, hK, hg47, by
      show NW ad w47 0 (rdV by8 256 (fun q => g (62 - q)) (62 - (62 : Int)).toNat)
      rw [show (62 - (62 : Int)).toNat = 0 by decide]
      exact v0⟩
    clear hN hK hg47 v0
    rintro ⟨y, u5⟩ hqq ih
    obtain ⟨hy0, hy1, hN, hK, hg5, v0⟩ := hqq
    dsimp only at hy0 hy1 hN hK hg5 v0 ⊢
    refine g_iload_n C dX0_isReadFromBytes_58 rfl ?_
    refine g_if_lt (tgt := 88) C dX0_isReadFromBytes_59 (by decide) (by omega) (fun h59 => ?_) (fun h59 => ?_)
    · have fzj := hK.nw hN hj fz0
      have hen : rdV by8 256 (fun q => g (62 - q)) (62 - y).toNat = z := by rw [show (62 - y).toNat = 63 by omega]; exact hx.2.2
      refine g_aload_n C dX0_isReadFromBytes_88 rfl ?_
      refine g_get (ci := 2) C rfl inTX0 0 (by decide) fl_RX0_12 rfl (hK.ob hN (t := 110) (by omega) hD) rfl dX0_isReadFromBytes_89 ?_
      refine g_aload_n C dX0_isReadFromBytes_92 rfl ?_
      refine g_callV C (c_X5_compareValue _ v0 fzj) (ci := 7) rfl (hN.W (j := 0) (by omega)).o rfl ml_RX0_139 im_yX5_compareValue se_RX5_yX5_compareValue in_RX5 co_yX5_compareValue hd_X5_compareValue rfl ⟨by omega, by omega⟩ rfl (Nat.le_of_ble_eq_true rfl) ⟨by omega, by omega⟩ dX0_isReadFromBytes_93 (fun v93 w93 hp93 => ?_)
      obtain ⟨⟨d93, rfl, hd93⟩, hw93⟩ := hp93
      subst w93
      refine g_if_ne (tgt := 103) C dX0_isReadFromBytes_96 (by decide) (by omega) (fun h96 => ?_) (fun h96 => ?_)
      · omega
      · refine g_iconst C dX0_isReadFromBytes_99 ?_
        refine g_goto (tgt := 104) C dX0_isReadFromBytes_100 (by decide) ?_
        exact g_zreturn C hQ dX0_isReadFromBytes_104 rfl (by omega) (by omega) ⟨rfl, hN, hK⟩
    · refine g_aload_n C dX0_isReadFromBytes_62 rfl ?_
      refine g_get (ci := 2) C rfl inTX0 0 (by decide) fl_RX0_12 rfl (hK.ob hN (t := 110) (by omega) hD) rfl dX0_isReadFromBytes_63 ?_
      refine g_sipush C dX0_isReadFromBytes_66 (by decide) ?_
      refine g_aload_n C dX0_isReadFromBytes_69 rfl ?_
      refine g_get (ci := 2) C rfl inTX0 4 (by decide) fl_RX0_27 rfl (hK.ob hN (t := 110) (by omega) hD) rfl dX0_isReadFromBytes_70 ?_
      refine g_iload_n C dX0_isReadFromBytes_73 rfl ?_
      refine g_baload C hg5 (by omega) dX0_isReadFromBytes_74 ?_
      refine g_sipush C dX0_isReadFromBytes_75 (by decide) ?_
      have hm8 : Int32.ofInt (g y.toNat) &&& Int32.ofInt 255 = Int32.ofInt (by8 (g y.toNat)) := by
        have q := i_mask (x := g y.toNat) (m := 255) 8 (by omega) (by decide)
        rw [show ((2 : Int) ^ 8) = 256 by decide] at q
        exact q
      have hby := hnn (g y.toNat)
      have h0 := (hx.2.1 (62 - y).toNat (by omega)).1
      have hi1 := (hx.2.1 ((62 - y).toNat + 1) (by omega)).2
      have hst : rdV by8 256 (fun q => g (62 - q)) ((62 - y).toNat + 1) = rdV by8 256 (fun q => g (62 - q)) (62 - y).toNat * 256 + by8 (g y.toNat) := by
        show rdV by8 256 (fun q => g (62 - q)) (62 - y).toNat * 256 + by8 (g (62 - (62 - y).toNat)) = _
        rw [show 62 - (62 - y).toNat = y.toNat by omega]
      have hbd : aB (rdV by8 256 (fun q => g (62 - q)) (62 - y).toNat) * 256 + by8 (g y.toNat) < B28 ^ 18 := by
        rw [aB_p h0, ← hst]
        exact Int.lt_of_le_of_lt hi1 hcz
      refine g_iand (z := by8 (g y.toNat)) C dX0_isReadFromBytes_78 hm8 ?_
      refine g_callV C (u_X5_multiplySmall _ v0 (by_ := 256) (mo := by8 (g y.toNat)) (by omega) (by omega) (Or.inl h0) hbd) (ci := 7) rfl (hN.W (j := 0) (by omega)).o rfl ml_RX0_35 im_yX5_multiplySmall se_RX5_yX5_multiplySmall in_RX5 co_yX5_multiplySmall hd_X5_multiplySmall rfl ⟨by omega, by omega⟩ rfl (Nat.le_of_ble_eq_true rfl) ⟨by omega, by omega⟩ dX0_isReadFromBytes_79 (fun v79 w79 hp79 => ?_)
      obtain ⟨rfl, hws79, hfr79⟩ := hp79
      obtain ⟨hN79, v79w, hkj79⟩ := hN.stepV (j := 0) (by omega) hws79 hfr79
      replace hK := hK.tr (hkj79.kn (by omega))
      replace hN := hN79
      have v0 := v79w
      have hg79 : w79.2 (ad 340) = some (true, eB 63 g) := hkj79.2 _ _ (by rw [hN.t 340 (by omega)]; omega) (by rw [hN.t 340 (by omega)]; omega) hg5
      refine g_iinc C dX0_isReadFromBytes_82 rfl (by decide) rfl ?_
      refine g_goto (tgt := 58) C dX0_isReadFromBytes_85 (by decide) ?_
      exact ih (y + -1, w79) ⟨by dsimp only; omega, by dsimp only; omega, hN, hK, hg79, by
        show NW ad w79 0 (rdV by8 256 (fun q => g (62 - q)) (62 - (y + -1)).toNat)
        rw [show (62 - (y + -1)).toNat = (62 - y).toNat + 1 by omega, hst]
        exact v0⟩ (by dsimp only; omega)
  · refine g_aload_n C dX0_isReadFromBytes_19 rfl ?_
    refine g_get (ci := 2) C rfl inTX0 4 (by decide) fl_RX0_27 rfl (hK.ob hN (t := 110) (by omega) hD) rfl dX0_isReadFromBytes_20 ?_
    refine g_iload_n C dX0_isReadFromBytes_23 rfl ?_
    refine g_aload_n C dX0_isReadFromBytes_24 rfl ?_
    refine g_get (ci := 2) C rfl inTX0 3 (by decide) fl_RX0_24 rfl (hK.ob hN (t := 110) (by omega) hD) rfl dX0_isReadFromBytes_25 ?_
    refine g_sipush C dX0_isReadFromBytes_28 (by decide) ?_
    refine g_callV C (u_X5_divideSmall _ sh (y := 256) (by omega)) (ci := 7) rfl (hN.W (j := 3) (by omega)).o rfl ml_RX0_72 im_yX5_divideSmall se_RX5_yX5_divideSmall in_RX5 co_yX5_divideSmall hd_X5_divideSmall rfl ⟨by omega, by omega⟩ rfl (Nat.le_of_ble_eq_true rfl) ⟨by omega, by omega⟩ dX0_isReadFromBytes_31 (fun v31 w31 hp31 => ?_)
    obtain ⟨d31, q31, rfl, d31a, d31b, hws31, q31a, q31b, q31c, hfr31⟩ := hp31
    obtain ⟨hN31, v31w, hkj31⟩ := hN.stepV (j := 3) (by omega) hws31 hfr31
    replace hK := hK.tr (hkj31.kn (by omega))
    replace hN := hN31
    have sh := v31w
    have hg31 : w31.2 (ad 340) = some (true, eB 63 g) := hkj31.2 _ _ (by rw [hN.t 340 (by omega)]; omega) (by rw [hN.t 340 (by omega)]; omega) hg1
    obtain ⟨z34, hz34, z34a, z34b, z34c⟩ := nar_w ⟨d31a, d31b⟩
    have hq0 := q31b hzz
    have hq1 : q31 * 256 + d31 = zz := by rw [aB_p hq0, aB_p hzz] at q31a; exact q31a
    refine g_i2b (z := z34) C dX0_isReadFromBytes_34 hz34 ?_
    refine g_bastore C hg31 (by omega) (nar_b ⟨z34a, z34b⟩) dX0_isReadFromBytes_35 ?_
    refine g_iinc C dX0_isReadFromBytes_36 rfl (by decide) rfl ?_
    refine g_goto (tgt := 10) C dX0_isReadFromBytes_39 (by decide) ?_
    have hb9 : bF (iup g i z34) := hg2.iup i ⟨z34a, z34b⟩
    obtain ⟨hN9, hK9, hW9⟩ := hN.bytes hb9
    exact ih (i + 1, wset w31 (ad 340) (true, eB 63 (iup g i z34)), q31, iup g i z34) ⟨by dsimp only; omega, hN9, hK.tr hK9, wset_s, hb9, hW9 3 _ (by omega) sh, hq0, by
      have e1 : loV by8 256 (iup g i z34) (i + 1) = loV by8 256 g i + d31 * 256 ^ i := by
        show loV by8 256 (iup g i z34) i + iup g i z34 i % 256 * 256 ^ i = _
        rw [loV_cg i (fun q hq => iup_n (f := g) (x := z34) (show q ≠ i by omega)), iup_s, z34c]
      show q31 * 256 ^ (i + 1) + loV by8 256 (iup g i z34) (i + 1) = z
      rw [e1]
      exact lo_step hq1 heq⟩ (by dsimp only; omega)
