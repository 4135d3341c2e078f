/-! bits of the class's numbers -/
theorem B28_pow (p : Nat) : B28 ^ p = (2 : Int) ^ (28 * p) := by
  rw [Int.pow_mul]; rfl
theorem nv28_bit {F : Nat → Int} {N q r : Nat} (hd : dg B28 F N) (hr : r < 28) : bt (nv B28 F N) (28 * q + r) = if q < N then bt (F q) r else 0 := by
  by_cases h : q < N
  · rw [if_pos h]
    obtain ⟨b, rfl⟩ : ∃ b, N = q + (1 + b) := ⟨N - q - 1, by omega⟩
    have d1 : dg B28 F q := dg_less hd (by omega)
    rw [nv_split q, B28_pow, bt_hi (nv_nonneg (by decide) d1) (by rw [← B28_pow]; exact nv_lt (by decide) d1), nv_split 1 b, B28_pow, bt_lo (by omega)]
    show bt (0 + F (q + 0) * B28 ^ 0) r = _
    rw [Int.pow_zero, Int.mul_one, Int.zero_add, Nat.add_zero]
  · rw [if_neg h]
    exact bt_big (P := 28 * N) (nv_nonneg (by decide) hd) (by rw [← B28_pow]; exact nv_lt (by decide) hd) (by omega)
theorem onB_cg {x y : Int} : ∀ {P : Nat}, (∀ p, p < P → bt x p = bt y p) → onB x P = onB y P
  | 0, _ => rfl
  | P + 1, h => by rw [onB_s, onB_s, onB_cg (fun p hp => h p (by omega)), h P (by omega)]
theorem onB_split {x y : Int} {P : Nat} (h0 : 0 ≤ x) (h1 : x < 2 ^ P) : ∀ Q : Nat, onB (x + 2 ^ P * y) (P + Q) = onB x P + onB y Q
  | 0 => by
    show onB (x + 2 ^ P * y) P = onB x P + 0
    rw [Int.add_zero]
    exact onB_cg (fun p hp => bt_lo hp)
  | Q + 1 => by
    show onB (x + 2 ^ P * y) (P + Q + 1) = _
    rw [onB_s, onB_s, onB_split h0 h1 Q, bt_hi h0 h1]
    omega
theorem onN_B : ∀ (n x : Nat), onB (x : Int) n = ((onN n x : Nat) : Int)
  | 0, x => rfl
  | n + 1, x => by
    have e : (x : Int) = ((x % 2 : Nat) : Int) + 2 ^ 1 * ((x / 2 : Nat) : Int) := by omega
    have h := onB_split (x := ((x % 2 : Nat) : Int)) (y := ((x / 2 : Nat) : Int)) (P := 1) (by omega) (by omega) n
    rw [← e, Nat.add_comm 1 n] at h
    rw [h, onN_B n (x / 2)]
    show (0 + bt ((x % 2 : Nat) : Int) 0) + _ = ((x % 2 + onN n (x / 2) : Nat) : Int)
    unfold bt
    rw [Int.pow_zero]
    omega
theorem on28 {x : Nat} (h : x < 268435456) : ((onN 32 x : Nat) : Int) = onB (x : Int) 28 := by
  rw [← onN_B]
  exact onB_ext (p := 28) (by omega) (by rw [show (2 : Int) ^ 28 = 268435456 by decide]; omega) (by omega)
theorem on_nv {F : Nat → Int} {n : Nat} (hd : dg B28 F (n + 1)) : onB (nv B28 F (n + 1)) (28 * (n + 1)) = onB (nv B28 F n) (28 * n) + onB (F n) 28 := by
  have d1 : dg B28 F n := dg_less hd (by omega)
  have h := onB_split (x := nv B28 F n) (y := F n) (P := 28 * n) (nv_nonneg (by decide) d1) (by rw [← B28_pow]; exact nv_lt (by decide) d1) 28
  rw [nv_succ, B28_pow, Int.mul_comm, show 28 * (n + 1) = 28 * n + 28 by omega]
  exact h
theorem hiB_at {v : Int} {p q : Nat} (h1 : 2 ^ q ≤ v) (h2 : v < 2 ^ (q + 1)) (h3 : v < 2 ^ p) : hiB v p = q := by
  have hq := p2_pos q
  have e : v % 2 ^ p = v := Int.emod_eq_of_lt (by omega) h3
  rcases hiB_len (v := v) (by omega) (p := p) with ⟨a, b⟩ | ⟨q2, a, b, c⟩
  · rw [e] at b; omega
  · rw [e] at b c
    rw [a]
    rcases Nat.lt_trichotomy q q2 with r | r | r
    · have := p2_le (show q + 1 ≤ q2 by omega); omega
    · rw [r]
    · have := p2_le (show q2 + 1 ≤ q by omega); omega
theorem hiB_z (p : Nat) : hiB 0 p = -1 := by
  rcases hiB_len (v := 0) (by omega) (p := p) with ⟨a, -⟩ | ⟨q, -, b, -⟩
  · exact a
  · have := p2_pos q
    rw [Int.zero_emod] at b
    omega
theorem top28 {F : Nat → Int} {n k : Nat} (hd : dg B28 F (n + 1)) (h1 : 2 ^ k ≤ F n) (h2 : F n < 2 ^ (k + 1)) : 2 ^ (28 * n + k) ≤ nv B28 F (n + 1) ∧ nv B28 F (n + 1) < 2 ^ (28 * n + k + 1) := by
  have d1 : dg B28 F n := dg_less hd (by omega)
  have a1 := nv_nonneg (B := B28) (by decide) d1
  have a2 := nv_lt (B := B28) (by decide) d1
  have hp := p2_pos (28 * n)
  rw [nv_succ]
  rw [B28_pow] at a2 ⊢
  have b1 := Int.mul_le_mul_of_nonneg_right h1 (Int.le_of_lt hp)
  have b2 := Int.mul_le_mul_of_nonneg_right (show F n + 1 ≤ 2 ^ (k + 1) by omega) (Int.le_of_lt hp)
  rw [← Int.pow_add] at b1 b2
  rw [Int.add_mul, Int.one_mul] at b2
  rw [show k + 28 * n = 28 * n + k by omega] at b1
  rw [show k + 1 + 28 * n = 28 * n + k + 1 by omega] at b2
  omega
theorem loB_at {v : Int} {q : Nat} (h0 : ∀ p, p < q → bt v p = 0) (h1 : bt v q = 1) : ∀ {p : Nat}, q < p → loB v p = q := by
  have z : ∀ p, p ≤ q → loB v p < 0 := by
    intro p
    induction p with
    | zero => intro _; show (-1 : Int) < 0; decide
    | succ p ih =>
      intro h
      rw [loB_s0 (h0 p (by omega))]
      exact ih (by omega)
  intro p
  induction p with
  | zero => intro h; omega
  | succ p ih =>
    intro h
    rcases Nat.lt_or_ge q p with c | c
    · rw [loB_s2 (by rw [ih c]; omega)]
      exact ih c
    · rw [show p = q by omega]
      exact loB_s1 h1 (z q (Nat.le_refl _))
theorem loB_0 {v : Int} : ∀ {p : Nat}, (∀ q, q < p → bt v q = 0) → loB v p = -1
  | 0, _ => rfl
  | p + 1, h => by
    rw [loB_s0 (h p (by omega))]
    exact loB_0 (fun q hq => h q (by omega))
theorem bt_odd {k q p : Nat} : bt ((2 ^ k * (2 * q + 1) : Nat) : Int) p = if p < k then 0 else if p = k then 1 else bt ((2 ^ k * (2 * q + 1) : Nat) : Int) p := by
  have e : ((2 ^ k * (2 * q + 1) : Nat) : Int) = 0 + 2 ^ k * (2 * (q : Int) + 1) := by simp
  by_cases c : p < k
  · rw [if_pos c, e, bt_lo c]; unfold bt; rw [Int.zero_ediv]; rfl
  · rw [if_neg c]
    by_cases d : p = k
    · rw [if_pos d, d, e]
      have := bt_hi (x := 0) (y := 2 * (q : Int) + 1) (P := k) (p := 0) (by omega) (p2_pos k)
      rw [Nat.add_zero] at this
      rw [this]; unfold bt; rw [Int.pow_zero]; omega
    · rw [if_neg d]
theorem odd28 {x : Int} (h : 0 < x ∧ x < 268435456) : ∃ k q : Nat, x = ((2 ^ k * (2 * q + 1) : Nat) : Int) ∧ k < 28 := by
  obtain ⟨n, rfl⟩ := Int.eq_ofNat_of_zero_le (show 0 ≤ x by omega)
  obtain ⟨k, q, e⟩ := odd_part n (by omega)
  refine ⟨k, q, by rw [e], ?_⟩
  rcases Nat.lt_or_ge k 28 with c | c
  · exact c
  · have h1 : 2 ^ 28 ≤ 2 ^ k := Nat.pow_le_pow_right (by decide) c
    have h2 := Nat.mul_le_mul h1 (show 1 ≤ 2 * q + 1 by omega)
    omega
theorem lo_nv {F : Nat → Int} {n j k : Nat} {q : Nat} (hd : dg B28 F n) (hj : j < n) (hk : k < 28) (h0 : ∀ i, i < j → F i = 0) (he : F j = ((2 ^ k * (2 * q + 1) : Nat) : Int)) : loB (nv B28 F n) (28 * n) = ((28 * j + k : Nat) : Int) := by
  have bz : ∀ p, p < 28 * n → bt (nv B28 F n) p = bt (F (p / 28)) (p % 28) := fun p hp => by
    have := nv28_bit (F := F) (N := n) (q := p / 28) (r := p % 28) hd (by omega)
    rw [show 28 * (p / 28) + p % 28 = p by omega, if_pos (by omega)] at this
    exact this
  refine loB_at (fun p hp => ?_) ?_ (by omega)
  · rw [bz p (by omega)]
    by_cases c : p / 28 < j
    · rw [h0 _ c]; unfold bt; rw [Int.zero_ediv]; rfl
    · rw [show p / 28 = j by omega, he, bt_odd, if_pos (by omega)]
  · rw [bz _ (by omega), show (28 * j + k) / 28 = j by omega, he, bt_odd, if_neg (by omega), if_pos (by omega)]
theorem p504 : (2 : Int) ^ 504 = B28 ^ 18 := (B28_pow 18).symm
set_option maxHeartbeats 4000000 in
set_option maxRecDepth 100000 in
theorem v_X5_bits (l : Launch) {E : GE} {w : Wd} {a r : Nat} {f : Nat → Int} {u : Nat} {bl : Int} (h1 : RA w a r f u bl) : Sp E l yX5_bits cX5_bits 2 (some .int) 1 (0) (0) [.ref a] w (fun r' w' => r' = some (iI (hiB (V18 f) 504 + 1)) ∧ w' = w) := by
  refine sp_intro [some (.ref a), none] rfl (Nat.le_of_ble_eq_true rfl) pn_X5 ?_
  intro X C hRm hl hnm hQ
  obtain ⟨hRf, hRl, hRc, hRs⟩ := hRm
  refine g_wf (fun hwf => ?_)
  have hB28 : B28 = 268435456 := rfl
  have hne := h1.ne
  obtain ⟨hO, hR, hf, hbl⟩ := id h1
  have hu18 := hf.2.1
  have hval := hf.val
  have hlt := hf.lt
  refine g_aload_n C dX5_bits_0 rfl ?_
  refine g_get (ci := 7) C rfl inTX5 1 (by decide) fl_RX5_17 rfl hO rfl dX5_bits_1 ?_
  refine g_iconst C dX5_bits_4 ?_
  refine g_icmp_lt (tgt := 17) C dX5_bits_5 (by decide) (by omega) (by omega) (fun h5 => ?_) (fun h5 => ?_)
  · refine g_iconst C dX5_bits_17 ?_
    exact g_ireturn C hQ dX5_bits_18 (Nat.le_refl _) (Nat.le_refl _) ⟨by rw [hf.zero.mpr (by omega), hiB_z]; rfl, rfl⟩
  · refine g_aload_n C dX5_bits_8 rfl ?_
    refine g_get (ci := 7) C rfl inTX5 1 (by decide) fl_RX5_17 rfl hO rfl dX5_bits_9 ?_
    refine g_bipush C dX5_bits_12 (by decide) ?_
    refine g_icmp_le (tgt := 19) C dX5_bits_14 (by decide) (by omega) (by omega) (fun h14 => ?_) (fun h14 => ?_)
    · obtain ⟨t, rfl⟩ : ∃ t : Nat, u = t + 1 := ⟨u - 1, by omega⟩
      have hft := hf.1 t (by omega)
      have hft0 := hf.2.2.2 (by omega)
      rw [Nat.add_sub_cancel] at hft0
      have hfu : 0 < f t ∧ f t < 2147483648 := by omega
      refine g_bipush C dX5_bits_19 (by decide) ?_
      refine g_aload_n C dX5_bits_21 rfl ?_
      refine g_get (ci := 7) C rfl inTX5 0 (by decide) fl_RX5_9 rfl hO rfl dX5_bits_22 ?_
      refine g_aload_n C dX5_bits_25 rfl ?_
      refine g_get (ci := 7) C rfl inTX5 1 (by decide) fl_RX5_17 rfl hO rfl dX5_bits_26 ?_
      refine g_iconst C dX5_bits_29 ?_
      refine g_isub C dX5_bits_30 ?_
      rw [show ((t + 1 : Nat) : Int) - 1 = (t : Int) by omega]
      refine g_ialoadN (t) C hR (by omega) (by omega) dX5_bits_31 ?_
      refine g_callS C (v_J6_numberOfLeadingZeros_0f7a4 _ hfu) ml_RX5_70 sm_yJ6_numberOfLeadingZeros_0f7a4 in_RJ6 co_yJ6_numberOfLeadingZeros_0f7a4 hd_J6_numberOfLeadingZeros_0f7a4 rfl ⟨by omega, by omega⟩ rfl (Nat.le_of_ble_eq_true rfl) ⟨by omega, by omega⟩ dX5_bits_32 (fun v32 w32 hp32 => ?_)
      obtain ⟨hd32, hw32⟩ := hp32
      subst w32
      obtain ⟨k, rfl, k1, k2⟩ := hd32
      refine g_isub C dX5_bits_35 ?_
      refine g_istore_n C dX5_bits_36 (by decide) rfl ?_
      refine g_aload_n C dX5_bits_37 rfl ?_
      refine g_get (ci := 7) C rfl inTX5 1 (by decide) fl_RX5_17 rfl hO rfl dX5_bits_38 ?_
      refine g_iconst C dX5_bits_41 ?_
      refine g_isub C dX5_bits_42 ?_
      refine g_bipush C dX5_bits_43 (by decide) ?_
      refine g_imul C dX5_bits_45 ?_
      refine g_iload_n C dX5_bits_46 rfl ?_
      refine g_iadd C dX5_bits_47 ?_
      exact g_ireturn C hQ dX5_bits_48 (Nat.le_refl _) (Nat.le_refl _) (by
        obtain ⟨t1, t2⟩ := top28 (n := t) (hf.1.dg (by omega)) k1 k2
        rw [← hval] at t1 t2
        have hz := hiB_at t1 t2 (p := 504) (by rw [p504]; exact Int.lt_of_lt_of_le hlt (pw28_le hu18))
        refine ⟨?_, rfl⟩
        rw [hz]
        congr 2
        omega)
    · omega
set_option maxHeartbeats 4000000 in
set_option maxRecDepth 100000 in
theorem v_X5_ones (l : Launch) {E : GE} {w : Wd} {a r : Nat} {f : Nat → Int} {u : Nat} {bl : Int} (h1 : RA w a r f u bl) : Sp E l yX5_ones cX5_ones 3 (some .int) 1 (0) (0) [.ref a] w (fun r' w' => r' = some (iI (onB (V18 f) 504)) ∧ w' = w) := by
  refine sp_intro [some (.ref a), none, none] rfl (Nat.le_of_ble_eq_true rfl) pn_X5 ?_
  intro X C hRm hl hnm hQ
  obtain ⟨hRf, hRl, hRc, hRs⟩ := hRm
  refine g_wf (fun hwf => ?_)
  have hB28 : B28 = 268435456 := rfl
  have hne := h1.ne
  obtain ⟨hO, hR, hf, hbl⟩ := id h1
  have hu18 := hf.2.1
  refine g_iconst C dX5_ones_0 ?_
  refine g_istore_n C dX5_ones_1 (by decide) rfl ?_
  refine g_iconst C dX5_ones_2 ?_
  refine g_istore_n C dX5_ones_3 (by decide) rfl ?_
  refine g_loop (σ := Nat × Int) (fun s => s.1 ≤ 18 ∧ s.2 = onB (nv B28 f s.1) (28 * s.1)) (fun s => G E X 3 4 [some (.ref a), some (iI s.2), some (iI (s.1 : Int))] [] w 0 0) (fun s => 18 - s.1) ?_ (0, 0) ⟨by dsimp only; omega, rfl⟩
  rintro ⟨j, c⟩ ⟨hj, hc⟩ ih
  dsimp only at hj hc ⊢
  refine g_iload_n C dX5_ones_4 rfl ?_
  refine g_bipush C dX5_ones_5 (by decide) ?_
  refine g_icmp_ge (tgt := 28) C dX5_ones_7 (by decide) (by omega) (by omega) (fun h7 => ?_) (fun h7 => ?_)
  · refine g_iload_n C dX5_ones_28 rfl ?_
    exact g_ireturn C hQ dX5_ones_29 (Nat.le_refl _) (Nat.le_refl _) ⟨by rw [hc, show j = 18 by omega]; rfl, rfl⟩
  · have hfj := hf.1 j (by omega)
    obtain ⟨x, hx⟩ := Int.eq_ofNat_of_zero_le hfj.1
    refine g_iload_n C dX5_ones_10 rfl ?_
    refine g_aload_n C dX5_ones_11 rfl ?_
    refine g_get (ci := 7) C rfl inTX5 0 (by decide) fl_RX5_9 rfl hO rfl dX5_ones_12 ?_
    refine g_iload_n C dX5_ones_15 rfl ?_
    refine g_ialoadN (j) C hR (by omega) (by omega) dX5_ones_16 ?_
    rw [hx]
    refine g_callS C (v_J6_bitCount_0f7a4 _ (x := x) (by omega)) ml_RX5_76 sm_yJ6_bitCount_0f7a4 in_RJ6 co_yJ6_bitCount_0f7a4 hd_J6_bitCount_0f7a4 rfl ⟨by omega, by omega⟩ rfl (Nat.le_of_ble_eq_true rfl) ⟨by omega, by omega⟩ dX5_ones_17 (fun v17 w17 hp17 => ?_)
    obtain ⟨rfl, hw17⟩ := hp17
    subst w17
    rw [on28 (by omega), ← hx]
    refine g_iadd C dX5_ones_20 ?_
    refine g_istore_n C dX5_ones_21 (by decide) rfl ?_
    refine g_iinc C dX5_ones_22 rfl (by decide) rfl ?_
    refine g_goto (tgt := 4) C dX5_ones_25 (by decide) ?_
    exact ih (j + 1, c + onB (f j) 28) ⟨by dsimp only; omega, by dsimp only; rw [hc]; exact (on_nv (hf.1.dg (by omega))).symm⟩ (by dsimp only; omega)
set_option maxHeartbeats 4000000 in
set_option maxRecDepth 100000 in
theorem v_X5_zerosBehind (l : Launch) {E : GE} {w : Wd} {a r : Nat} {f : Nat → Int} {u : Nat} {bl : Int} (h1 : RA w a r f u bl) : Sp E l yX5_zerosBehind cX5_zerosBehind 2 (some .int) 1 (0) (0) [.ref a] w (fun r' w' => r' = some (iI (loB (V18 f) 504)) ∧ w' = w) := by
  refine sp_intro [some (.ref a), none] rfl (Nat.le_of_ble_eq_true rfl) pn_X5 ?_
  intro X C hRm hl hnm hQ
  obtain ⟨hRf, hRl, hRc, hRs⟩ := hRm
  refine g_wf (fun hwf => ?_)
  have hB28 : B28 = 268435456 := rfl
  have hne := h1.ne
  obtain ⟨hO, hR, hf, hbl⟩ := id h1
  have hu18 := hf.2.1
  refine g_iconst C dX5_zerosBehind_0 ?_
  refine g_istore_n C dX5_zerosBehind_1 (by decide) rfl ?_
  refine g_loop (σ := Nat) (fun s => s ≤ 18 ∧ ∀ i, i < s → f i = 0) (fun s => G E X 2 2 [some (.ref a), some (iI (s : Int))] [] w 0 0) (fun s => 18 - s) ?_ 0 ⟨by omega, fun i hi => absurd hi (Nat.not_lt_zero i)⟩
  rintro j ⟨hj, hz⟩ ih
  refine g_iload_n C dX5_zerosBehind_2 rfl ?_
  refine g_bipush C dX5_zerosBehind_3 (by decide) ?_
  refine g_icmp_ge (tgt := 38) C dX5_zerosBehind_5 (by decide) (by omega) (by omega) (fun h5 => ?_) (fun h5 => ?_)
  · refine g_iconst C dX5_zerosBehind_38 ?_
    exact g_ireturn C hQ dX5_zerosBehind_39 (Nat.le_refl _) (Nat.le_refl _) ⟨by
      have hv0 : V18 f = 0 := (nv_zeros (B := B28) (f := f) (m := 0) (n := 18) (by omega) (fun i _ h => hz i (by omega)))
      rw [hv0, loB_0 (fun q _ => by unfold bt; rw [Int.zero_ediv]; rfl)], rfl⟩
  · have hfj := hf.1 j (by omega)
    refine g_aload_n C dX5_zerosBehind_8 rfl ?_
    refine g_get (ci := 7) C rfl inTX5 0 (by decide) fl_RX5_9 rfl hO rfl dX5_zerosBehind_9 ?_
    refine g_iload_n C dX5_zerosBehind_12 rfl ?_
    refine g_ialoadN (j) C hR (by omega) (by omega) dX5_zerosBehind_13 ?_
    refine g_if_eq (tgt := 32) C dX5_zerosBehind_14 (by decide) (by omega) (fun h14 => ?_) (fun h14 => ?_)
    · refine g_iinc C dX5_zerosBehind_32 rfl (by decide) rfl ?_
      refine g_goto (tgt := 2) C dX5_zerosBehind_35 (by decide) ?_
      exact ih (j + 1) ⟨by omega, fun i hi => by
        by_cases c : i = j
        · rw [c]; exact Classical.not_not.mp (by omega)
        · exact hz i (by omega)⟩ (by omega)
    · obtain ⟨k, q, hkq, hk28⟩ := odd28 (x := f j) (by omega)
      have hlo : loB (V18 f) 504 = ((28 * j + k : Nat) : Int) := lo_nv (n := 18) (hf.1.dg (by omega)) (by omega) hk28 hz hkq
      refine g_iload_n C dX5_zerosBehind_17 rfl ?_
      refine g_bipush C dX5_zerosBehind_18 (by decide) ?_
      refine g_imul C dX5_zerosBehind_20 ?_
      refine g_aload_n C dX5_zerosBehind_21 rfl ?_
      refine g_get (ci := 7) C rfl inTX5 0 (by decide) fl_RX5_9 rfl hO rfl dX5_zerosBehind_22 ?_
      refine g_iload_n C dX5_zerosBehind_25 rfl ?_
      refine g_ialoadN (j) C hR (by omega) (by omega) dX5_zerosBehind_26 ?_
      rw [hkq]
      refine g_callS C (v_J6_numberOfTrailingZeros_0f7a4 _ (k := k) (q := q) (by omega)) ml_RX5_79 sm_yJ6_numberOfTrailingZeros_0f7a4 in_RJ6 co_yJ6_numberOfTrailingZeros_0f7a4 hd_J6_numberOfTrailingZeros_0f7a4 rfl ⟨by omega, by omega⟩ rfl (Nat.le_of_ble_eq_true rfl) ⟨by omega, by omega⟩ dX5_zerosBehind_27 (fun v27 w27 hp27 => ?_)
      obtain ⟨rfl, hw27⟩ := hp27
      subst w27
      refine g_iadd C dX5_zerosBehind_30 ?_
      exact g_ireturn C hQ dX5_zerosBehind_31 (Nat.le_refl _) (Nat.le_refl _) ⟨by rw [hlo, show (j : Int) * 28 + (k : Int) = ((28 * j + k : Nat) : Int) by omega], rfl⟩
set_option maxHeartbeats 4000000 in
set_option maxRecDepth 100000 in
theorem v_X5_hasBit (l : Launch) {E : GE} {w : Wd} {a r : Nat} {f : Nat → Int} {u : Nat} {bl : Int} (h1 : RA w a r f u bl) {p : Nat} (hp : p ≤ 1000) : Sp E l yX5_hasBit cX5_hasBit 3 (some .boolean) 0 (0) (0) [.ref a, iI (p : Int)] w (fun r' w' => r' = some (iI (bI (bt (V18 f) p = 1))) ∧ w' = w) := by
  refine sp_intro [some (.ref a), some (iI (p : Int)), none] rfl (Nat.le_of_ble_eq_true rfl) pn_X5 ?_
  intro X C hRm hl hnm hQ
  obtain ⟨hRf, hRl, hRc, hRs⟩ := hRm
  refine g_wf (fun hwf => ?_)
  have hB28 : B28 = 268435456 := rfl
  have hne := h1.ne
  obtain ⟨hO, hR, hf, hbl⟩ := id h1
  have hu18 := hf.2.1
  have hbz := nv28_bit (F := f) (N := 18) (q := p / 28) (r := p % 28) (hf.1.dg (by omega)) (by omega)
  rw [show 28 * (p / 28) + p % 28 = p by omega] at hbz
  obtain ⟨hd1, hd2⟩ := dv28 p
  have h28 : p % 28 < 28 := by omega
  generalize hq : p / 28 = q at hbz hd1
  generalize hr : p % 28 = r9 at hbz hd2 h28
  refine g_iload_n C dX5_hasBit_0 rfl ?_
  refine g_if_ge (tgt := 9) C dX5_hasBit_1 (by decide) (by omega) (fun h1 => ?_) (fun h1 => ?_)
  · refine g_iload_n C dX5_hasBit_9 rfl ?_
    refine g_bipush C dX5_hasBit_10 (by decide) ?_
    refine g_idivN C dX5_hasBit_12 (by omega) (by omega) ?_
    rw [hd1]
    refine g_istore_n C dX5_hasBit_13 (by decide) rfl ?_
    refine g_iload_n C dX5_hasBit_14 rfl ?_
    refine g_bipush C dX5_hasBit_15 (by decide) ?_
    refine g_icmp_ge (tgt := 41) C dX5_hasBit_17 (by decide) (by omega) (by omega) (fun h17 => ?_) (fun h17 => ?_)
    · refine g_iconst C dX5_hasBit_41 ?_
      exact g_zreturn C hQ dX5_hasBit_42 (nar01 (by omega)) (Nat.le_refl _) (Nat.le_refl _) ⟨by
        show _ = some (iI (bI (bt (nv B28 f 18) p = 1)))
        rw [hbz]
        first | rw [if_neg (by omega), bI_f (by decide)] | rw [bI_t (by omega)] | rw [bI_f (by omega)], rfl⟩
    · rw [if_pos (by omega)] at hbz
      have hfj := hf.1 q (by omega)
      have hbt := bt_01 (f q) r9
      refine g_aload_n C dX5_hasBit_20 rfl ?_
      refine g_get (ci := 7) C rfl inTX5 0 (by decide) fl_RX5_9 rfl hO rfl dX5_hasBit_21 ?_
      refine g_iload_n C dX5_hasBit_24 rfl ?_
      refine g_ialoadN (q) C hR (by omega) (by omega) dX5_hasBit_25 ?_
      refine g_iload_n C dX5_hasBit_26 rfl ?_
      refine g_bipush C dX5_hasBit_27 (by decide) ?_
      refine g_iremN C dX5_hasBit_29 (by omega) (by omega) ?_
      rw [hd2]
      refine g_iushr (z := f q / 2 ^ r9) C dX5_hasBit_30 (i_ushr r9 (by omega) (by omega) (shd28 r9 (by omega))) ?_
      refine g_iconst C dX5_hasBit_31 ?_
      refine g_iand (z := bt (f q) r9) C dX5_hasBit_32 (by rw [i_mask 1 (by omega) (by decide), show (2 : Int) ^ 1 = 2 by decide]; rfl) ?_
      refine g_iconst C dX5_hasBit_33 ?_
      refine g_icmp_ne (tgt := 41) C dX5_hasBit_34 (by decide) (by omega) (by omega) (fun h34 => ?_) (fun h34 => ?_)
      · refine g_iconst C dX5_hasBit_41 ?_
        exact g_zreturn C hQ dX5_hasBit_42 (nar01 (by omega)) (Nat.le_refl _) (Nat.le_refl _) ⟨by
          show _ = some (iI (bI (bt (nv B28 f 18) p = 1)))
          rw [hbz]
          first | rw [if_neg (by omega), bI_f (by decide)] | rw [bI_t (by omega)] | rw [bI_f (by omega)], rfl⟩
      · refine g_iconst C dX5_hasBit_37 ?_
        refine g_goto (tgt := 42) C dX5_hasBit_38 (by decide) ?_
        exact g_zreturn C hQ dX5_hasBit_42 (nar01 (by omega)) (Nat.le_refl _) (Nat.le_refl _) ⟨by
          show _ = some (iI (bI (bt (nv B28 f 18) p = 1)))
          rw [hbz]
          first | rw [if_neg (by omega), bI_f (by decide)] | rw [bI_t (by omega)] | rw [bI_f (by omega)], rfl⟩
  · omega
theorem or_hi {x : Nat} {y : Nat} (s : Nat) (hx : x < 2 ^ s) : Int64.ofInt (x : Int) ||| Int64.ofInt ((y * 2 ^ s : Nat) : Int) = Int64.ofInt ((x + y * 2 ^ s : Nat) : Int) := by
  apply Int64.toBitVec_inj.mp
  show BitVec.ofInt 64 (x : Int) ||| BitVec.ofInt 64 ((y * 2 ^ s : Nat) : Int) = BitVec.ofInt 64 ((x + y * 2 ^ s : Nat) : Int)
  rw [BitVec.ofInt_natCast, BitVec.ofInt_natCast, BitVec.ofInt_natCast, ← BitVec.ofNat_or]
  congr 1
  rw [Nat.or_comm, Nat.mul_comm y, Nat.add_comm]
  exact (Nat.two_pow_add_eq_or_of_lt hx y).symm
theorem j_shlN (x : Nat) (s : Nat) (hs : s = 28 ∨ s = 56) : Int64.ofInt (x : Int) <<< ((Int32.ofInt (s : Int)).toInt64 &&& 63) = Int64.ofInt ((x * 2 ^ s : Nat) : Int) := by
  apply Int64.toBitVec_inj.mp
  rw [Int64.toBitVec_shiftLeft]
  have hD : (((Int32.ofInt (s : Int)).toInt64 &&& 63).toBitVec.smod 64).toNat = s := by rcases hs with q | q <;> (subst q; decide)
  show BitVec.ofInt 64 (x : Int) <<< (((Int32.ofInt (s : Int)).toInt64 &&& 63).toBitVec.smod 64) = BitVec.ofInt 64 ((x * 2 ^ s : Nat) : Int)
  rw [BitVec.shiftLeft_eq', hD, BitVec.shiftLeft_eq_mul_twoPow, Int.natCast_mul, BitVec.ofInt_mul]
  congr 1
  apply BitVec.eq_of_toNat_eq
  rw [BitVec.toNat_twoPow, BitVec.ofInt_natCast, BitVec.toNat_ofNat]
theorem low3 {f : Nat → Int} {x0 x1 x2 : Nat} (e0 : f 0 = x0) (e1 : f 1 = x1) (e2 : f 2 = x2) : ∃ y : Int, V18 f = ((x0 + x1 * 2 ^ 28 + x2 * 2 ^ 56 : Nat) : Int) + 18446744073709551616 * y := by
  refine ⟨1048576 * nv B28 (fun i => f (3 + i)) 15, ?_⟩
  show nv B28 f (3 + 15) = _
  rw [nv_split 3 15]
  show 0 + f 0 * B28 ^ 0 + f 1 * B28 ^ 1 + f 2 * B28 ^ 2 + B28 ^ 3 * _ = _
  rw [e0, e1, e2, show B28 ^ 0 = 1 by decide, show B28 ^ 1 = 268435456 by decide, show B28 ^ 2 = 72057594037927936 by decide, show B28 ^ 3 = 18446744073709551616 * 1048576 by decide]
  generalize nv B28 (fun i => f (3 + i)) 15 = z
  rw [Int.mul_assoc]
  omega
set_option maxHeartbeats 4000000 in
set_option maxRecDepth 100000 in
theorem v_X5_lowBits (l : Launch) {E : GE} {w : Wd} {a r : Nat} {z : Int} (hW : WA w a r z) : Sp E l yX5_lowBits cX5_lowBits 3 (some .long) 0 (0) (0) [.ref a] w (fun r' w' => r' = some (jJ z) ∧ w' = w) := by
  refine sp_intro [some (.ref a), none, none] rfl (Nat.le_of_ble_eq_true rfl) pn_X5 ?_
  intro X C hRm hl hnm hQ
  obtain ⟨hRf, hRl, hRc, hRs⟩ := hRm
  refine g_wf (fun hwf => ?_)
  obtain ⟨f, u, bl, h1, n1⟩ := hW.ra
  have hB28 : B28 = 268435456 := rfl
  obtain ⟨hO, hR, hf, hbl⟩ := id h1
  have s1 := n1.z
  have hf0 := hf.1 0 (by omega)
  have hf1 := hf.1 1 (by omega)
  have hf2 := hf.1 2 (by omega)
  obtain ⟨x0, e0⟩ := Int.eq_ofNat_of_zero_le hf0.1
  obtain ⟨x1, e1⟩ := Int.eq_ofNat_of_zero_le hf1.1
  obtain ⟨x2, e2⟩ := Int.eq_ofNat_of_zero_le hf2.1
  obtain ⟨y9, ey⟩ := low3 e0 e1 e2
  refine g_aload_n C dX5_lowBits_0 rfl ?_
  refine g_get (ci := 7) C rfl inTX5 0 (by decide) fl_RX5_9 rfl hO rfl dX5_lowBits_1 ?_
  refine g_iconst C dX5_lowBits_4 ?_
  refine g_ialoadN (0) C hR (by omega) (by omega) dX5_lowBits_5 ?_
  rw [e0]
  refine g_i2l C dX5_lowBits_6 (by omega) ?_
  refine g_aload_n C dX5_lowBits_7 rfl ?_
  refine g_get (ci := 7) C rfl inTX5 0 (by decide) fl_RX5_9 rfl hO rfl dX5_lowBits_8 ?_
  refine g_iconst C dX5_lowBits_11 ?_
  refine g_ialoadN (1) C hR (by omega) (by omega) dX5_lowBits_12 ?_
  rw [e1]
  refine g_i2l C dX5_lowBits_13 (by omega) ?_
  refine g_bipush C dX5_lowBits_14 (by decide) ?_
  refine g_lshl (z := _) C dX5_lowBits_16 (j_shlN x1 28 (Or.inl rfl)) ?_
  refine g_lor (z := _) C dX5_lowBits_17 (or_hi 28 (by omega)) ?_
  refine g_aload_n C dX5_lowBits_18 rfl ?_
  refine g_get (ci := 7) C rfl inTX5 0 (by decide) fl_RX5_9 rfl hO rfl dX5_lowBits_19 ?_
  refine g_iconst C dX5_lowBits_22 ?_
  refine g_ialoadN (2) C hR (by omega) (by omega) dX5_lowBits_23 ?_
  rw [e2]
  refine g_i2l C dX5_lowBits_24 (by omega) ?_
  refine g_bipush C dX5_lowBits_25 (by decide) ?_
  refine g_lshl (z := _) C dX5_lowBits_27 (j_shlN x2 56 (Or.inr rfl)) ?_
  refine g_lor (z := _) C dX5_lowBits_28 (or_hi 56 (by omega)) ?_
  refine g_lstore_n C dX5_lowBits_29 (by decide) rfl ?_
  refine g_aload_n C dX5_lowBits_30 rfl ?_
  refine g_get (ci := 7) C rfl inTX5 2 (by decide) fl_RX5_13 rfl hO rfl dX5_lowBits_31 ?_
  refine g_if_eq (tgt := 42) C dX5_lowBits_34 (by decide) (by omega) (fun h34 => ?_) (fun h34 => ?_)
  · refine g_lload_n C dX5_lowBits_42 rfl ?_
    exact g_lreturn C hQ dX5_lowBits_43 (Nat.le_refl _) (Nat.le_refl _) ⟨by
      congr 1
      first
      | (rw [show z = -((x0 + x1 * 2 ^ 28 + x2 * 2 ^ 56 : Nat) : Int) + 18446744073709551616 * (-y9) by omega, jJ_mod])
      | (rw [show z = ((x0 + x1 * 2 ^ 28 + x2 * 2 ^ 56 : Nat) : Int) + 18446744073709551616 * y9 by omega, jJ_mod]), rfl⟩
  · refine g_lload_n C dX5_lowBits_37 rfl ?_
    refine g_lneg C dX5_lowBits_38 ?_
    refine g_goto (tgt := 43) C dX5_lowBits_39 (by decide) ?_
    exact g_lreturn C hQ dX5_lowBits_43 (Nat.le_refl _) (Nat.le_refl _) ⟨by
      congr 1
      first
      | (rw [show z = -((x0 + x1 * 2 ^ 28 + x2 * 2 ^ 56 : Nat) : Int) + 18446744073709551616 * (-y9) by omega, jJ_mod])
      | (rw [show z = ((x0 + x1 * 2 ^ 28 + x2 * 2 ^ 56 : Nat) : Int) + 18446744073709551616 * y9 by omega, jJ_mod]), rfl⟩
