theorem bI_r (p : Prop) [Decidable p] : -2147483648 ≤ bI p ∧ bI p < 2147483648 := by unfold bI; split <;> omega
theorem bI_0 {p : Prop} [Decidable p] (h : bI p = 0) : ¬ p := fun q => by rw [bI_t q] at h; omega
theorem bI_1 {p : Prop} [Decidable p] (h : ¬ bI p = 0) : p := by
  by_cases q : p
  · exact q
  · exact absurd (bI_f q) h
theorem bI_i {p q : Prop} [Decidable p] [Decidable q] (h : p ↔ q) : bI p = bI q := by
  by_cases r : p
  · rw [bI_t r, bI_t (h.mp r)]
  · rw [bI_f r, bI_f (fun s => r (h.mpr s))]
set_option maxHeartbeats 4000000 in
set_option maxRecDepth 100000 in
theorem c_X8_isIn (l : Launch) {E : GE} {w : Wd} {v a b : Int} (h_v : -2147483648 ≤ v ∧ v < 2147483648) (h_a : -2147483648 ≤ a ∧ a < 2147483648) (h_b : -2147483648 ≤ b ∧ b < 2147483648) : Sp E l yX8_isIn cX8_isIn 3 (some .boolean) 0 (0) (0) [iI v, iI a, iI b] w (fun r w' => r = some (iI (bI (a ≤ v ∧ v ≤ b))) ∧ w' = w) := by
  refine sp_intro [some (iI v), some (iI a), some (iI b)] rfl (Nat.le_of_ble_eq_true rfl) pn_X8 ?_
  intro X C hRm hl hnm hQ
  obtain ⟨hRf, hRl, hRc, hRs⟩ := hRm
  refine g_wf (fun hwf => ?_)
  refine g_iload_n C dX8_isIn_0 rfl ?_
  refine g_iload_n C dX8_isIn_1 rfl ?_
  refine g_icmp_lt (tgt := 14) C dX8_isIn_2 (by decide) (by omega) (by omega) (fun h2 => ?_) (fun h2 => ?_)
  · refine g_iconst C dX8_isIn_14 ?_
    exact g_zreturn C hQ dX8_isIn_15 rfl (Nat.le_refl _) (Nat.le_refl _) ⟨by rw [show bI (a ≤ v ∧ v ≤ b) = _ from by first | exact bI_t (by omega) | exact bI_f (by omega)], rfl⟩
  · refine g_iload_n C dX8_isIn_5 rfl ?_
    refine g_iload_n C dX8_isIn_6 rfl ?_
    refine g_icmp_gt (tgt := 14) C dX8_isIn_7 (by decide) (by omega) (by omega) (fun h7 => ?_) (fun h7 => ?_)
    · refine g_iconst C dX8_isIn_14 ?_
      exact g_zreturn C hQ dX8_isIn_15 rfl (Nat.le_refl _) (Nat.le_refl _) ⟨by rw [show bI (a ≤ v ∧ v ≤ b) = _ from by first | exact bI_t (by omega) | exact bI_f (by omega)], rfl⟩
    · refine g_iconst C dX8_isIn_10 ?_
      refine g_goto (tgt := 15) C dX8_isIn_11 (by decide) ?_
      exact g_zreturn C hQ dX8_isIn_15 rfl (Nat.le_refl _) (Nat.le_refl _) ⟨by rw [show bI (a ≤ v ∧ v ≤ b) = _ from by first | exact bI_t (by omega) | exact bI_f (by omega)], rfl⟩
set_option maxHeartbeats 4000000 in
set_option maxRecDepth 100000 in
theorem c_X8_isNo (l : Launch) {E : GE} {w : Wd} {v : Int} (h_v : -2147483648 ≤ v ∧ v < 2147483648) : Sp E l yX8_isNo cX8_isNo 1 (some .boolean) 1 (0) (0) [iI v] w (fun r w' => r = some (iI (bI (¬ (0 ≤ v ∧ v ≤ 2)))) ∧ w' = w) := by
  refine sp_intro [some (iI v)] rfl (Nat.le_of_ble_eq_true rfl) pn_X8 ?_
  intro X C hRm hl hnm hQ
  obtain ⟨hRf, hRl, hRc, hRs⟩ := hRm
  refine g_wf (fun hwf => ?_)
  refine g_iload_n C dX8_isNo_0 rfl ?_
  refine g_iconst C dX8_isNo_1 ?_
  refine g_iconst C dX8_isNo_2 ?_
  refine g_callS C (c_X8_isIn _ h_v (by omega) (by omega)) ml_RX8_49 sm_yX8_isIn in_RX8 co_yX8_isIn hd_X8_isIn rfl ⟨by omega, by omega⟩ rfl (Nat.le_of_ble_eq_true rfl) ⟨by omega, by omega⟩ dX8_isNo_3 (fun v3 w3 hp3 => ?_)
  obtain ⟨rfl, rfl⟩ := hp3
  refine g_if_ne (tgt := 13) C dX8_isNo_6 (by decide) (bI_r _) (fun h6 => ?_) (fun h6 => ?_)
  · refine g_iconst C dX8_isNo_13 ?_
    exact g_zreturn C hQ dX8_isNo_14 rfl (Nat.le_refl _) (Nat.le_refl _) ⟨by first | (have q := bI_1 h6; rw [bI_f (fun p => p q)]) | (have q := bI_0 (Classical.not_not.mp h6); rw [bI_t q]), rfl⟩
  · refine g_iconst C dX8_isNo_9 ?_
    refine g_goto (tgt := 14) C dX8_isNo_10 (by decide) ?_
    exact g_zreturn C hQ dX8_isNo_14 rfl (Nat.le_refl _) (Nat.le_refl _) ⟨by first | (have q := bI_1 h6; rw [bI_f (fun p => p q)]) | (have q := bI_0 (Classical.not_not.mp h6); rw [bI_t q]), rfl⟩
set_option maxHeartbeats 4000000 in
set_option maxRecDepth 100000 in
theorem c_X8_root (l : Launch) {E : GE} {w : Wd} {b : Int} (hb : 0 ≤ b ∧ b ≤ 999) : Sp E l yX8_root cX8_root 2 (some .int) 0 (0) (0) [iI b] w (fun r w' => (∃ m : Int, r = some (iI m) ∧ 0 ≤ m ∧ m * m ≤ b ∧ b < (m + 1) * (m + 1)) ∧ w' = w) := by
  refine sp_intro [some (iI b), none] rfl (Nat.le_of_ble_eq_true rfl) pn_X8 ?_
  intro X C hRm hl hnm hQ
  obtain ⟨hRf, hRl, hRc, hRs⟩ := hRm
  refine g_wf (fun hwf => ?_)
  refine g_iconst C dX8_root_0 ?_
  refine g_istore_n C dX8_root_1 (by decide) rfl ?_
  refine g_loop (σ := Int) (fun m => 0 ≤ m ∧ m * m ≤ b ∧ m ≤ 999) (fun m => G E X 2 2 [some (iI b), some (iI m)] [] w 0 0) (fun m => (1000 - m).toNat) ?_ 0 (by omega)
  intro m hm ih
  obtain ⟨hm0, hm1, hm2⟩ := hm
  have hsq : (m + 1) * (m + 1) = m * m + 2 * m + 1 := by rw [Int.add_mul, Int.mul_add]; omega
  have hsq2 : 0 ≤ m * m := Int.mul_nonneg hm0 hm0
  refine g_iload_n C dX8_root_2 rfl ?_
  refine g_iconst C dX8_root_3 ?_
  refine g_iadd C dX8_root_4 ?_
  refine g_iload_n C dX8_root_5 rfl ?_
  refine g_iconst C dX8_root_6 ?_
  refine g_iadd C dX8_root_7 ?_
  refine g_imul C dX8_root_8 ?_
  refine g_iload_n C dX8_root_9 rfl ?_
  refine g_icmp_gt (tgt := 19) C dX8_root_10 (by decide) (by omega) (by omega) (fun h10 => ?_) (fun h10 => ?_)
  · refine g_iload_n C dX8_root_19 rfl ?_
    exact g_ireturn C hQ dX8_root_20 (Nat.le_refl _) (Nat.le_refl _) ⟨⟨m, rfl, hm0, hm1, by omega⟩, rfl⟩
  · refine g_iinc C dX8_root_13 rfl (by decide) rfl ?_
    refine g_goto (tgt := 2) C dX8_root_16 (by decide) ?_
    have hlt : m + 1 ≤ 999 := by
      rcases Int.lt_or_le 999 (m + 1) with q | q
      · have : 1000 * 1000 ≤ (m + 1) * (m + 1) := Int.mul_le_mul (by omega) (by omega) (by omega) (by omega)
        omega
      · exact q
    exact ih (m + 1) ⟨by omega, by omega, hlt⟩ (by omega)
set_option maxHeartbeats 4000000 in
set_option maxRecDepth 100000 in
theorem c_X8_cut (l : Launch) {E : GE} {w : Wd} {s : Int} {a n c : Nat} {b : Bool} {f : Nat → Int} (ha : w.2 a = some (b, eI n f)) (hn : 1 ≤ n) (hc : n ≤ c) (hn2 : c ≤ 200) (hd : DG f n) (hs : s = 1 ∨ s = -1 ∨ s = 0 ∧ mg f n = 0) : Sp E l yX8_cut cX8_cut 5 (some (.array .int)) 0 (1) (c) [iI s, .ref a] w (fun r w' => ∃ (m : Nat) (g : Nat → Int), r = some (.ref w.1) ∧ w' = wpush w (true, eI m g) ∧ BN g m (s * mg f n) ∧ m ≤ n) := by
  refine sp_intro [some (iI s), some (.ref a), none, none, none] rfl (Nat.le_of_ble_eq_true rfl) pn_X8 ?_
  intro X C hRm hl hnm hQ
  obtain ⟨hRf, hRl, hRc, hRs⟩ := hRm
  refine g_wf (fun hwf => ?_)
  have hne : a ≠ w.1 := Nat.ne_of_lt (hwf a _ ha)
  refine g_aload_n C dX8_cut_0 rfl ?_
  refine g_alen C ha (Or.inl ⟨_, rfl⟩) dX8_cut_1 ?_
  refine g_istore_n C dX8_cut_2 (by decide) rfl ?_
  have J22 : ∀ m : Nat, 1 ≤ m → m ≤ n → (∀ i, m ≤ i → i < n → f i = 0) → (1 < m → f (m - 1) ≠ 0) → G E X 5 22 [some (iI s), some (.ref a), some (iI m), none, none] [] w 0 0 := by
    intro m hm hmn hz ht
    refine g_iload_n C dX8_cut_22 rfl ?_
    refine g_newI C gw_arrayClass_int (N := m) rfl (by omega) (by omega) dX8_cut_23 ?_
    refine g_astore_n C dX8_cut_25 (by decide) rfl ?_
    refine g_iconst C dX8_cut_26 ?_
    refine g_istore C dX8_cut_27 (by decide) rfl ?_
    refine g_loop (σ := Nat × (Nat → Int)) (fun q => 1 ≤ q.1 ∧ q.1 ≤ m ∧ ∀ i, 1 ≤ i → i < q.1 → q.2 i = f i) (fun q => G E X 5 29 [some (iI s), some (.ref a), some (iI m), some (.ref w.1), some (iI (q.1 : Int))] [] (wpush w (true, eI m q.2)) 1 (0 + m)) (fun q => m - q.1) ?_ (1, fun _ => 0) ⟨by omega, by omega, fun i h1 h2 => absurd h2 (by omega)⟩
    rintro ⟨k, g⟩ hq ih
    obtain ⟨hk1, hk2, hk3⟩ := hq
    have hpa : (wpush w (true, eI m g)).2 a = some (b, eI n f) := by rw [wpush_n hne]; exact ha
    have hps : (wpush w (true, eI m g)).2 w.1 = some (true, eI m g) := wpush_s
    dsimp only at hk1 hk2 hk3
    have ek : ((k : Nat) : Int).toNat = k := by omega
    refine g_iload C dX8_cut_29 rfl ?_
    refine g_iload_n C dX8_cut_31 rfl ?_
    refine g_icmp_ge (tgt := 49) C dX8_cut_32 (by decide) (by omega) (by omega) (fun h32 => ?_) (fun h32 => ?_)
    · refine g_aload_n C dX8_cut_49 rfl ?_
      refine g_iconst C dX8_cut_50 ?_
      refine g_iload_n C dX8_cut_51 rfl ?_
      have J61 : ∀ y : Int, y = (if m = 1 then 0 else s) → G E X 5 61 [some (iI s), some (.ref a), some (iI m), some (.ref w.1), some (iI (k : Int))] [iI y, iI 0, .ref w.1] (wpush w (true, eI m g)) 1 (0 + m) := by
        intro y hy
        refine g_iastore C hps (by omega) dX8_cut_61 ?_
        rw [wset_push]
        refine g_aload_n C dX8_cut_62 rfl ?_
        exact g_areturn C (Or.inr ⟨_, rfl⟩) hQ (Or.inr ⟨_, rfl⟩) dX8_cut_63 (by omega) (by omega) ⟨m, iup g 0 y, rfl, rfl, BN.cut hd hm hmn hz ht (fun i h1 h2 => by rw [iup_n (by omega)]; exact hk3 i h1 (by omega)) (by rw [iup_s]; exact hy) (by
          rcases hs with q | q | ⟨q, q2⟩
          · exact Or.inr (Or.inl q)
          · exact Or.inr (Or.inr q)
          · rcases Nat.lt_or_ge 1 m with r | r
            · have hp := mg_pos (f := g) (n := m) (fun i h1 h2 => by rw [hk3 i h1 (by omega)]; exact hd i h1 (by omega)) r (by rw [hk3 (m - 1) (by omega) (by omega)]; exact ht r)
              rw [mg_cut hm hmn hz (fun i h1 h2 => hk3 i h1 (by omega))] at hp
              omega
            · exact Or.inl (by omega)), hmn⟩
      refine g_iconst C dX8_cut_52 ?_
      refine g_icmp_ne (tgt := 60) C dX8_cut_53 (by decide) (by omega) (by omega) (fun h53 => ?_) (fun h53 => ?_)
      · refine g_iload_n C dX8_cut_60 rfl ?_
        exact J61 _ (by first | rw [if_pos (by omega)] | rw [if_neg (by omega)])
      · refine g_iconst C dX8_cut_56 ?_
        refine g_goto (tgt := 61) C dX8_cut_57 (by decide) ?_
        exact J61 _ (by first | rw [if_pos (by omega)] | rw [if_neg (by omega)])
    · refine g_aload_n C dX8_cut_35 rfl ?_
      refine g_iload C dX8_cut_36 rfl ?_
      refine g_aload_n C dX8_cut_38 rfl ?_
      refine g_iload C dX8_cut_39 rfl ?_
      refine g_iaload C hpa (by omega) dX8_cut_41 ?_
      refine g_iastore C hps (by omega) dX8_cut_42 ?_
      rw [wset_push, ek]
      refine g_iinc C dX8_cut_43 rfl (by decide) rfl ?_
      refine g_goto (tgt := 29) C dX8_cut_46 (by decide) ?_
      have e2 : ((k : Nat) : Int) + 1 = ((k + 1 : Nat) : Int) := by omega
      rw [e2]
      exact ih (k + 1, iup g k (f k)) ⟨by dsimp only; omega, by dsimp only; omega, fun i h1 h2 => by
        dsimp only at h2 ⊢
        by_cases q : i = k
        · rw [q, iup_s]
        · rw [iup_n q]; exact hk3 i h1 (by omega)⟩ (by dsimp only; omega)
  refine g_loop (σ := Nat) (fun m => 1 ≤ m ∧ m ≤ n ∧ (∀ i, m ≤ i → i < n → f i = 0)) (fun m => G E X 5 3 [some (iI s), some (.ref a), some (iI m), none, none] [] w 0 0) (fun m => m) ?_ n ⟨hn, Nat.le_refl n, fun i h1 h2 => by omega⟩
  intro m hm ih
  obtain ⟨hm1, hm2, hm3⟩ := hm
  have em : ((m : Int) - 1).toNat = m - 1 := by omega
  refine g_iload_n C dX8_cut_3 rfl ?_
  refine g_iconst C dX8_cut_4 ?_
  refine g_icmp_le (tgt := 22) C dX8_cut_5 (by decide) (by omega) (by omega) (fun h5 => ?_) (fun h5 => ?_)
  · exact J22 m hm1 hm2 hm3 (fun _ => by first | omega | (rw [em] at h13; exact h13))
  · refine g_aload_n C dX8_cut_8 rfl ?_
    refine g_iload_n C dX8_cut_9 rfl ?_
    refine g_iconst C dX8_cut_10 ?_
    refine g_isub C dX8_cut_11 ?_
    refine g_iaload C ha (by omega) dX8_cut_12 ?_
    refine g_if_ne (tgt := 22) C dX8_cut_13 (by decide) (by have := hd (m - 1) (by omega) (by omega); rw [em]; omega) (fun h13 => ?_) (fun h13 => ?_)
    · exact J22 m hm1 hm2 hm3 (fun _ => by first | omega | (rw [em] at h13; exact h13))
    · refine g_iinc C dX8_cut_16 rfl (by decide) rfl ?_
      refine g_goto (tgt := 3) C dX8_cut_19 (by decide) ?_
      have e2 : (m : Int) + -1 = ((m - 1 : Nat) : Int) := by omega
      rw [e2]
      exact ih (m - 1) ⟨by omega, by omega, fun i h1 h2 => by
        by_cases q : i = m - 1
        · rw [q, ← em]; omega
        · exact hm3 i (by omega) h2⟩ (by omega)
