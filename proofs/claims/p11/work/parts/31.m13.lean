set_option maxHeartbeats 4000000 in
set_option maxRecDepth 100000 in
theorem c_X8_symbol (l : Launch) {E : GE} {w : Wd} {v num : Int} (h_v : -2147483648 ≤ v ∧ v < 2147483648) (h_num : -2147483648 ≤ num ∧ num < 2147483648) {τ : Nat → Nat} {m : Nat} {A : MA} {th : Int} {ba st pb le ri : Nat → Int} {sp : Nat → Nat → Int} {ct : Nat → Int} (hM : MSx τ w m A th ba st pb le ri sp ct) (hZ : HZp sp) : Sp E l yX8_symbol cX8_symbol 5 (some .int) 2 (0) (0) [.ref m, iI v, iI num] w (fun r w' => ∃ (t : Int) (ans : Int), r = some (iI ans) ∧ MSx τ w' m A (t) (ba) (st) (pb) (le) (ri) (sp) (ct) ∧ Keep τ w w' ∧ (¬ (0 ≤ v ∧ v ≤ 2) ∧ t = 1 ∧ ans = 0 ∨ (0 ≤ v ∧ v ≤ 2) ∧ ¬ ((-999) ≤ num ∧ num ≤ 999) ∧ t = 2 ∧ ans = 0 ∨ (0 ≤ v ∧ v ≤ 2) ∧ ((-999) ≤ num ∧ num ≤ 999) ∧ t = 0 ∧ ∃ p k, SpR (sp v.toNat) p k ∧ ans = if pmN (num % (p : Int)).toNat p ((p - 1) / 2) = p - 1 then -1 else ((pmN (num % (p : Int)).toNat p ((p - 1) / 2) : Nat) : Int))) := by
  refine sp_intro [some (.ref m), some (iI v), some (iI num), none, none] rfl (Nat.le_of_ble_eq_true rfl) pn_X8 ?_
  intro X C hRm hl hnm hQ
  obtain ⟨hRf, hRl, hRc, hRs⟩ := hRm
  refine g_wf (fun hwf => ?_)
  refine g_aload_n C dX8_symbol_0 rfl ?_
  refine g_iload_n C dX8_symbol_1 rfl ?_
  refine g_callS C (c_X8_isNo _ (v := v) h_v) ml_RX8_145 sm_yX8_isNo in_RX8 co_yX8_isNo hd_X8_isNo rfl ⟨by omega, by omega⟩ rfl (Nat.le_of_ble_eq_true rfl) ⟨by omega, by omega⟩ dX8_symbol_2 (fun v2 w2 hp2 => ?_)
  obtain ⟨rfl, hw2⟩ := hp2
  subst w2
  refine g_iconst C dX8_symbol_5 ?_
  refine g_callV C (c_X8_start _ hM (y := bI (¬ (0 ≤ v ∧ v ≤ 2))) (wh := 1) (bI_01 _) (by omega)) (ci := 10) rfl hM.o rfl ml_RX8_149 im_yX8_start se_RX8_yX8_start in_RX8 co_yX8_start hd_X8_start rfl ⟨by omega, by omega⟩ rfl (Nat.le_of_ble_eq_true rfl) ⟨by omega, by omega⟩ dX8_symbol_6 (fun v6 w6 hp6 => ?_)
  obtain ⟨t6, rfl, ht6, hM6, hK6⟩ := hp6
  have hy6 : (bI (¬ (0 ≤ v ∧ v ≤ 2))) = 0 ∨ (bI (¬ (0 ≤ v ∧ v ≤ 2))) = 1 := (bI_01 _)
  refine g_if_ne (tgt := 38) C dX8_symbol_9 (by decide) (bI_r _) (fun h9 => ?_) (fun h9 => ?_)
  · refine g_iconst C dX8_symbol_38 ?_
    exact g_ireturn C hQ dX8_symbol_39 (Nat.le_refl _) (Nat.le_refl _) (by
      first
      | exact ⟨t, 0, rfl, hM7, hK67, Or.inr (Or.inl ⟨hwk, by have := bI_1 h35; omega, by have := bI_1 h35; omega, rfl⟩)⟩
      | exact ⟨t6, 0, rfl, hM6, hK6, Or.inl ⟨bI_1 h9, by omega, rfl⟩⟩)
  · refine g_aload_n C dX8_symbol_12 rfl ?_
    refine g_iload_n C dX8_symbol_13 rfl ?_
    refine g_sipush C dX8_symbol_14 (by decide) ?_
    refine g_sipush C dX8_symbol_17 (by decide) ?_
    refine g_callS C (c_X8_isIn _ (v := num) (a := (-999)) (b := 999) h_num (by omega) (by omega)) ml_RX8_49 sm_yX8_isIn in_RX8 co_yX8_isIn hd_X8_isIn rfl ⟨by omega, by omega⟩ rfl (Nat.le_of_ble_eq_true rfl) ⟨by omega, by omega⟩ dX8_symbol_20 (fun v20 w20 hp20 => ?_)
    obtain ⟨rfl, hw20⟩ := hp20
    subst w20
    have J31 : ∀ y : Int, (y = 0 ∧ ((-999) ≤ num ∧ num ≤ 999) ∨ y = 1 ∧ ¬ ((-999) ≤ num ∧ num ≤ 999)) → G E X 5 31 [some (.ref m), some (iI v), some (iI num), none, none] [iI y, .ref m] w6 0 0 := by
      intro y hy
      have hwk : 0 ≤ v ∧ v ≤ 2 := Classical.not_not.mp (bI_0 (Classical.not_not.mp h9))
      refine g_iconst C dX8_symbol_31 ?_
      refine g_callV C (c_X8_refuse _ hM6 (y := y) (wh := 2) (by omega) (by omega) (by omega)) (ci := 10) rfl hM6.o rfl ml_RX8_45 im_yX8_refuse se_RX8_yX8_refuse in_RX8 co_yX8_refuse hd_X8_refuse rfl ⟨by omega, by omega⟩ rfl (Nat.le_of_ble_eq_true rfl) ⟨by omega, by omega⟩ dX8_symbol_32 (fun v32 w32 hp32 => ?_)
      obtain ⟨t, rfl, ht, hM7, hK7⟩ := hp32
      have hy7 : (y) = 0 ∨ (y) = 1 := (by omega)
      have hK67 := hK6.tr hK7
      refine g_if_eq (tgt := 40) C dX8_symbol_35 (by decide) (bI_r _) (fun h35 => ?_) (fun h35 => ?_)
      · have htz : ¬ (0 < t) := bI_0 h35
        have hnr : -999 ≤ num ∧ num ≤ 999 := by omega
        obtain ⟨q, hq, tq, eq⟩ := hM7.Z (i := v.toNat) (by omega)
        obtain ⟨p, k, hR⟩ := hZ v.toNat (by omega)
        have hpp := hR.1.p
        have e0 := hR.2.1
        have hnm : num % (p : Int) = (((num % (p : Int)).toNat % p : Nat) : Int) := by
          have a1 : 0 ≤ num % (p : Int) := Int.emod_nonneg _ (by omega)
          have a2 : num % (p : Int) < p := Int.emod_lt_of_pos _ (by omega)
          rw [Nat.mod_eq_of_lt (by omega)]; omega
        refine g_aload_n C dX8_symbol_40 rfl ?_
        refine g_get (ci := 10) C rfl inTX8 6 (by decide) fl_RX8_35 rfl hM7.o rfl dX8_symbol_41 ?_
        refine g_iload_n C dX8_symbol_44 rfl ?_
        refine g_aaloadN (v.toNat) C rfl rfl hM7.z (by omega) (by omega) hq dX8_symbol_45 ?_
        refine g_iconst C dX8_symbol_46 ?_
        refine g_ialoadN (0) C eq (by omega) (by omega) dX8_symbol_47 ?_
        rw [e0]
        refine g_istore_n C dX8_symbol_48 (by decide) rfl ?_
        refine g_iload_n C dX8_symbol_49 rfl ?_
        refine g_iload_n C dX8_symbol_50 rfl ?_
        refine g_iconst C dX8_symbol_51 ?_
        refine g_isub C dX8_symbol_52 ?_
        refine g_iconst C dX8_symbol_53 ?_
        refine g_idivN C dX8_symbol_54 (by omega) (by omega) ?_
        rw [show ((p : Int) - 1) / 2 = (((p - 1) / 2 : Nat) : Int) by omega]
        refine g_iload_n C dX8_symbol_55 rfl ?_
        refine g_callS C (c_X8_powered _ (x := num) (a := (num % (p : Int)).toNat) (p := p) (K := (p - 1) / 2) (by omega) (by omega) hnm (by omega)) ml_RX8_250 sm_yX8_powered in_RX8 co_yX8_powered hd_X8_powered rfl ⟨by omega, by omega⟩ rfl (Nat.le_of_ble_eq_true rfl) ⟨by omega, by omega⟩ dX8_symbol_56 (fun v56 w56 hp56 => ?_)
        obtain ⟨rfl, hw56⟩ := hp56
        subst w56
        have hlt := pmN_lt (a := (num % (p : Int)).toNat) (p := p) (by omega) ((p - 1) / 2)
        refine g_istore C dX8_symbol_59 (by decide) rfl ?_
        refine g_iload C dX8_symbol_61 rfl ?_
        refine g_iload_n C dX8_symbol_63 rfl ?_
        refine g_iconst C dX8_symbol_64 ?_
        refine g_isub C dX8_symbol_65 ?_
        refine g_icmp_ne (tgt := 73) C dX8_symbol_66 (by decide) (by omega) (by omega) (fun h66 => ?_) (fun h66 => ?_)
        · refine g_iload C dX8_symbol_73 rfl ?_
          exact g_ireturn C hQ dX8_symbol_75 (Nat.le_refl _) (Nat.le_refl _) ⟨t, _, rfl, hM7, hK67, Or.inr (Or.inr ⟨hwk, by omega, by omega, p, k, hR, by first | rw [if_pos (by omega)] | rw [if_neg (by omega)]⟩)⟩
        · refine g_iconst C dX8_symbol_69 ?_
          refine g_goto (tgt := 75) C dX8_symbol_70 (by decide) ?_
          exact g_ireturn C hQ dX8_symbol_75 (Nat.le_refl _) (Nat.le_refl _) ⟨t, _, rfl, hM7, hK67, Or.inr (Or.inr ⟨hwk, by omega, by omega, p, k, hR, by first | rw [if_pos (by omega)] | rw [if_neg (by omega)]⟩)⟩
      · refine g_iconst C dX8_symbol_38 ?_
        exact g_ireturn C hQ dX8_symbol_39 (Nat.le_refl _) (Nat.le_refl _) (by
          first
          | exact ⟨t, 0, rfl, hM7, hK67, Or.inr (Or.inl ⟨hwk, by have := bI_1 h35; omega, by have := bI_1 h35; omega, rfl⟩)⟩
          | exact ⟨t6, 0, rfl, hM6, hK6, Or.inl ⟨bI_1 h9, by omega, rfl⟩⟩)
    refine g_if_ne (tgt := 30) C dX8_symbol_23 (by decide) (bI_r _) (fun h23 => ?_) (fun h23 => ?_)
    · refine g_iconst C dX8_symbol_30 ?_
      exact J31 _ (by first | exact Or.inl ⟨rfl, bI_1 h23⟩ | exact Or.inr ⟨rfl, bI_0 (Classical.not_not.mp h23)⟩)
    · refine g_iconst C dX8_symbol_26 ?_
      refine g_goto (tgt := 31) C dX8_symbol_27 (by decide) ?_
      exact J31 _ (by first | exact Or.inl ⟨rfl, bI_1 h23⟩ | exact Or.inr ⟨rfl, bI_0 (Classical.not_not.mp h23)⟩)
set_option maxHeartbeats 4000000 in
set_option maxRecDepth 100000 in
theorem c_X8_inverse (l : Launch) {E : GE} {w : Wd} {v num : Int} (h_v : -2147483648 ≤ v ∧ v < 2147483648) (h_num : -2147483648 ≤ num ∧ num < 2147483648) {τ : Nat → Nat} {m : Nat} {A : MA} {th : Int} {ba st pb le ri : Nat → Int} {sp : Nat → Nat → Int} {ct : Nat → Int} (hM : MSx τ w m A th ba st pb le ri sp ct) (hZ : HZp sp) : Sp E l yX8_inverse cX8_inverse 5 (some .int) 2 (0) (0) [.ref m, iI v, iI num] w (fun r w' => ∃ (t : Int) (ans : Int), r = some (iI ans) ∧ MSx τ w' m A (t) (ba) (st) (pb) (le) (ri) (sp) (ct) ∧ Keep τ w w' ∧ (¬ (0 ≤ v ∧ v ≤ 2) ∧ t = 1 ∧ ans = 0 ∨ (0 ≤ v ∧ v ≤ 2) ∧ ¬ ((-999) ≤ num ∧ num ≤ 999) ∧ t = 2 ∧ ans = 0 ∨ (0 ≤ v ∧ v ≤ 2) ∧ ((-999) ≤ num ∧ num ≤ 999) ∧ t = 0 ∧ ∃ p k, SpR (sp v.toNat) p k ∧ ((∃ j : Nat, 1 ≤ j ∧ j < p ∧ num % (p : Int) * (j : Int) % (p : Int) = 1 ∧ (∀ i : Nat, 1 ≤ i → i < j → num % (p : Int) * (i : Int) % (p : Int) ≠ 1) ∧ ans = j) ∨ (∀ i : Nat, 1 ≤ i → i < p → num % (p : Int) * (i : Int) % (p : Int) ≠ 1) ∧ ans = 0))) := by
  refine sp_intro [some (.ref m), some (iI v), some (iI num), none, none] rfl (Nat.le_of_ble_eq_true rfl) pn_X8 ?_
  intro X C hRm hl hnm hQ
  obtain ⟨hRf, hRl, hRc, hRs⟩ := hRm
  refine g_wf (fun hwf => ?_)
  refine g_aload_n C dX8_inverse_0 rfl ?_
  refine g_iload_n C dX8_inverse_1 rfl ?_
  refine g_callS C (c_X8_isNo _ (v := v) h_v) ml_RX8_145 sm_yX8_isNo in_RX8 co_yX8_isNo hd_X8_isNo rfl ⟨by omega, by omega⟩ rfl (Nat.le_of_ble_eq_true rfl) ⟨by omega, by omega⟩ dX8_inverse_2 (fun v2 w2 hp2 => ?_)
  obtain ⟨rfl, hw2⟩ := hp2
  subst w2
  refine g_iconst C dX8_inverse_5 ?_
  refine g_callV C (c_X8_start _ hM (y := bI (¬ (0 ≤ v ∧ v ≤ 2))) (wh := 1) (bI_01 _) (by omega)) (ci := 10) rfl hM.o rfl ml_RX8_149 im_yX8_start se_RX8_yX8_start in_RX8 co_yX8_start hd_X8_start rfl ⟨by omega, by omega⟩ rfl (Nat.le_of_ble_eq_true rfl) ⟨by omega, by omega⟩ dX8_inverse_6 (fun v6 w6 hp6 => ?_)
  obtain ⟨t6, rfl, ht6, hM6, hK6⟩ := hp6
  have hy6 : (bI (¬ (0 ≤ v ∧ v ≤ 2))) = 0 ∨ (bI (¬ (0 ≤ v ∧ v ≤ 2))) = 1 := (bI_01 _)
  refine g_if_ne (tgt := 38) C dX8_inverse_9 (by decide) (bI_r _) (fun h9 => ?_) (fun h9 => ?_)
  · refine g_iconst C dX8_inverse_38 ?_
    exact g_ireturn C hQ dX8_inverse_39 (Nat.le_refl _) (Nat.le_refl _) (by
      first
      | exact ⟨t, 0, rfl, hM7, hK67, Or.inr (Or.inl ⟨hwk, by have := bI_1 h35; omega, by have := bI_1 h35; omega, rfl⟩)⟩
      | exact ⟨t6, 0, rfl, hM6, hK6, Or.inl ⟨bI_1 h9, by omega, rfl⟩⟩)
  · refine g_aload_n C dX8_inverse_12 rfl ?_
    refine g_iload_n C dX8_inverse_13 rfl ?_
    refine g_sipush C dX8_inverse_14 (by decide) ?_
    refine g_sipush C dX8_inverse_17 (by decide) ?_
    refine g_callS C (c_X8_isIn _ (v := num) (a := (-999)) (b := 999) h_num (by omega) (by omega)) ml_RX8_49 sm_yX8_isIn in_RX8 co_yX8_isIn hd_X8_isIn rfl ⟨by omega, by omega⟩ rfl (Nat.le_of_ble_eq_true rfl) ⟨by omega, by omega⟩ dX8_inverse_20 (fun v20 w20 hp20 => ?_)
    obtain ⟨rfl, hw20⟩ := hp20
    subst w20
    have J31 : ∀ y : Int, (y = 0 ∧ ((-999) ≤ num ∧ num ≤ 999) ∨ y = 1 ∧ ¬ ((-999) ≤ num ∧ num ≤ 999)) → G E X 5 31 [some (.ref m), some (iI v), some (iI num), none, none] [iI y, .ref m] w6 0 0 := by
      intro y hy
      have hwk : 0 ≤ v ∧ v ≤ 2 := Classical.not_not.mp (bI_0 (Classical.not_not.mp h9))
      refine g_iconst C dX8_inverse_31 ?_
      refine g_callV C (c_X8_refuse _ hM6 (y := y) (wh := 2) (by omega) (by omega) (by omega)) (ci := 10) rfl hM6.o rfl ml_RX8_45 im_yX8_refuse se_RX8_yX8_refuse in_RX8 co_yX8_refuse hd_X8_refuse rfl ⟨by omega, by omega⟩ rfl (Nat.le_of_ble_eq_true rfl) ⟨by omega, by omega⟩ dX8_inverse_32 (fun v32 w32 hp32 => ?_)
      obtain ⟨t, rfl, ht, hM7, hK7⟩ := hp32
      have hy7 : (y) = 0 ∨ (y) = 1 := (by omega)
      have hK67 := hK6.tr hK7
      refine g_if_eq (tgt := 40) C dX8_inverse_35 (by decide) (bI_r _) (fun h35 => ?_) (fun h35 => ?_)
      · have htz : ¬ (0 < t) := bI_0 h35
        have hnr : -999 ≤ num ∧ num ≤ 999 := by omega
        obtain ⟨q, hq, tq, eq⟩ := hM7.Z (i := v.toNat) (by omega)
        obtain ⟨p, k, hR⟩ := hZ v.toNat (by omega)
        have hpp := hR.1.p
        have e0 := hR.2.1
        have hnm : num % (p : Int) = (((num % (p : Int)).toNat % p : Nat) : Int) := by
          have a1 : 0 ≤ num % (p : Int) := Int.emod_nonneg _ (by omega)
          have a2 : num % (p : Int) < p := Int.emod_lt_of_pos _ (by omega)
          rw [Nat.mod_eq_of_lt (by omega)]; omega
        have t1 : -(p : Int) < num.tmod p := Int.lt_tmod_of_pos num (by omega)
        have t2 : num.tmod p < p := Int.tmod_lt_of_pos num (by omega)
        have a1 : 0 ≤ num % (p : Int) := Int.emod_nonneg _ (by omega)
        have a2 : num % (p : Int) < p := Int.emod_lt_of_pos _ (by omega)
        refine g_aload_n C dX8_inverse_40 rfl ?_
        refine g_get (ci := 10) C rfl inTX8 6 (by decide) fl_RX8_35 rfl hM7.o rfl dX8_inverse_41 ?_
        refine g_iload_n C dX8_inverse_44 rfl ?_
        refine g_aaloadN (v.toNat) C rfl rfl hM7.z (by omega) (by omega) hq dX8_inverse_45 ?_
        refine g_iconst C dX8_inverse_46 ?_
        refine g_ialoadN (0) C eq (by omega) (by omega) dX8_inverse_47 ?_
        rw [e0]
        refine g_istore_n C dX8_inverse_48 (by decide) rfl ?_
        refine g_iconst C dX8_inverse_49 ?_
        refine g_istore C dX8_inverse_50 (by decide) rfl ?_
        refine g_loop (σ := Nat) (fun j => 1 ≤ j ∧ j ≤ p ∧ ∀ i : Nat, 1 ≤ i → i < j → num % (p : Int) * (i : Int) % (p : Int) ≠ 1) (fun j => G E X 5 52 [some (.ref m), some (iI v), some (iI num), some (iI (p : Int)), some (iI (j : Int))] [] w32 0 0) (fun j => p - j) ?_ 1 ⟨by omega, by omega, fun i h1 h2 => by omega⟩
        rintro j ⟨hj1, hjp, hjn⟩ ih
        have m1 : 0 ≤ num % (p : Int) * (j : Int) := Int.mul_nonneg a1 (by omega)
        have m2 : num % (p : Int) * (j : Int) ≤ 997 * 997 := Int.mul_le_mul (by omega) (by omega) (by omega) (by omega)
        have m3 : 0 ≤ num % (p : Int) * (j : Int) % (p : Int) := Int.emod_nonneg _ (by omega)
        have m4 : num % (p : Int) * (j : Int) % (p : Int) < p := Int.emod_lt_of_pos _ (by omega)
        refine g_iload C dX8_inverse_52 rfl ?_
        refine g_iload_n C dX8_inverse_54 rfl ?_
        refine g_icmp_ge (tgt := 83) C dX8_inverse_55 (by decide) (by omega) (by omega) (fun h55 => ?_) (fun h55 => ?_)
        · refine g_iconst C dX8_inverse_83 ?_
          exact g_ireturn C hQ dX8_inverse_84 (Nat.le_refl _) (Nat.le_refl _) ⟨t, 0, rfl, hM7, hK67, Or.inr (Or.inr ⟨hwk, by omega, by omega, p, k, hR, Or.inr ⟨fun i h1 h2 => hjn i h1 (by omega), rfl⟩⟩)⟩
        · refine g_iload_n C dX8_inverse_58 rfl ?_
          refine g_iload_n C dX8_inverse_59 rfl ?_
          refine g_irem C dX8_inverse_60 (by omega) (by omega) (by omega) ?_
          refine g_iload_n C dX8_inverse_61 rfl ?_
          refine g_iadd C dX8_inverse_62 ?_
          refine g_iload_n C dX8_inverse_63 rfl ?_
          refine g_iremN C dX8_inverse_64 (by omega) (by omega) ?_
          rw [tm_mod (by omega)]
          refine g_iload C dX8_inverse_65 rfl ?_
          refine g_imul C dX8_inverse_67 ?_
          refine g_iload_n C dX8_inverse_68 rfl ?_
          refine g_iremN C dX8_inverse_69 (by omega) (by omega) ?_
          refine g_iconst C dX8_inverse_70 ?_
          refine g_icmp_ne (tgt := 77) C dX8_inverse_71 (by decide) (by omega) (by omega) (fun h71 => ?_) (fun h71 => ?_)
          · refine g_iinc C dX8_inverse_77 rfl (by decide) rfl ?_
            refine g_goto (tgt := 52) C dX8_inverse_80 (by decide) ?_
            exact ih (j + 1) ⟨by omega, by omega, fun i h1 h2 => by
              rcases Nat.lt_or_ge i j with q | q
              · exact hjn i h1 q
              · rw [show i = j by omega]; exact h71⟩ (by omega)
          · refine g_iload C dX8_inverse_74 rfl ?_
            exact g_ireturn C hQ dX8_inverse_76 (Nat.le_refl _) (Nat.le_refl _) ⟨t, _, rfl, hM7, hK67, Or.inr (Or.inr ⟨hwk, by omega, by omega, p, k, hR, Or.inl ⟨j, hj1, by omega, Classical.not_not.mp h71, hjn, rfl⟩⟩)⟩
      · refine g_iconst C dX8_inverse_38 ?_
        exact g_ireturn C hQ dX8_inverse_39 (Nat.le_refl _) (Nat.le_refl _) (by
          first
          | exact ⟨t, 0, rfl, hM7, hK67, Or.inr (Or.inl ⟨hwk, by have := bI_1 h35; omega, by have := bI_1 h35; omega, rfl⟩)⟩
          | exact ⟨t6, 0, rfl, hM6, hK6, Or.inl ⟨bI_1 h9, by omega, rfl⟩⟩)
    refine g_if_ne (tgt := 30) C dX8_inverse_23 (by decide) (bI_r _) (fun h23 => ?_) (fun h23 => ?_)
    · refine g_iconst C dX8_inverse_30 ?_
      exact J31 _ (by first | exact Or.inl ⟨rfl, bI_1 h23⟩ | exact Or.inr ⟨rfl, bI_0 (Classical.not_not.mp h23)⟩)
    · refine g_iconst C dX8_inverse_26 ?_
      refine g_goto (tgt := 31) C dX8_inverse_27 (by decide) ?_
      exact J31 _ (by first | exact Or.inl ⟨rfl, bI_1 h23⟩ | exact Or.inr ⟨rfl, bI_0 (Classical.not_not.mp h23)⟩)
set_option maxHeartbeats 4000000 in
set_option maxRecDepth 100000 in
theorem c_X8_isPrime (l : Launch) {E : GE} {w : Wd} {v : Int} (h_v : -2147483648 ≤ v ∧ v < 2147483648) {τ : Nat → Nat} {m : Nat} {A : MA} {th : Int} {ba st pb le ri : Nat → Int} {sp : Nat → Nat → Int} {ct : Nat → Int} (hM : MSx τ w m A th ba st pb le ri sp ct) : Sp E l yX8_isPrime cX8_isPrime 2 (some .boolean) 2 (0) (0) [.ref m, iI v] w (fun r w' => ∃ (t : Int) (ans : Int), r = some (iI ans) ∧ MSx τ w' m A (t) (ba) (st) (pb) (le) (ri) (sp) (ct) ∧ Keep τ w w' ∧ (¬ (0 ≤ v ∧ v ≤ 999) ∧ t = 1 ∧ ans = 0 ∨ (0 ≤ v ∧ v ≤ 999) ∧ t = 0 ∧ (ans = 1 ∧ (1 < v.toNat ∧ prB v.toNat = true) ∨ ans = 0 ∧ ¬ (1 < v.toNat ∧ prB v.toNat = true)))) := by
  refine sp_intro [some (.ref m), some (iI v)] rfl (Nat.le_of_ble_eq_true rfl) pn_X8 ?_
  intro X C hRm hl hnm hQ
  obtain ⟨hRf, hRl, hRc, hRs⟩ := hRm
  refine g_wf (fun hwf => ?_)
  refine g_aload_n C dX8_isPrime_0 rfl ?_
  refine g_iload_n C dX8_isPrime_1 rfl ?_
  refine g_iconst C dX8_isPrime_2 ?_
  refine g_sipush C dX8_isPrime_3 (by decide) ?_
  refine g_callS C (c_X8_isIn _ (v := v) (a := 0) (b := 999) h_v (by omega) (by omega)) ml_RX8_49 sm_yX8_isIn in_RX8 co_yX8_isIn hd_X8_isIn rfl ⟨by omega, by omega⟩ rfl (Nat.le_of_ble_eq_true rfl) ⟨by omega, by omega⟩ dX8_isPrime_6 (fun v6 w6 hp6 => ?_)
  obtain ⟨rfl, hw6⟩ := hp6
  subst w6
  have J17 : ∀ y : Int, (y = 0 ∧ (0 ≤ v ∧ v ≤ 999) ∨ y = 1 ∧ ¬ (0 ≤ v ∧ v ≤ 999)) → G E X 2 17 [some (.ref m), some (iI v)] [iI y, .ref m] w 0 0 := by
    intro y hy
    refine g_iconst C dX8_isPrime_17 ?_
    refine g_callV C (c_X8_start _ hM (y := y) (wh := 1) (by omega) (by omega)) (ci := 10) rfl hM.o rfl ml_RX8_149 im_yX8_start se_RX8_yX8_start in_RX8 co_yX8_start hd_X8_start rfl ⟨by omega, by omega⟩ rfl (Nat.le_of_ble_eq_true rfl) ⟨by omega, by omega⟩ dX8_isPrime_18 (fun v18 w18 hp18 => ?_)
    obtain ⟨t6, rfl, ht6, hM6, hK6⟩ := hp18
    have hy6 : (y) = 0 ∨ (y) = 1 := (by omega)
    refine g_if_ne (tgt := 35) C dX8_isPrime_21 (by decide) (by omega) (fun h21 => ?_) (fun h21 => ?_)
    · refine g_iconst C dX8_isPrime_35 ?_
      exact g_zreturn C hQ dX8_isPrime_36 (nar01 (by omega)) (Nat.le_refl _) (Nat.le_refl _) (by
        first
        | exact ⟨t6, _, rfl, hM6, hK6, Or.inr ⟨hv, by omega, by rw [Int.toNat_natCast]; rcases hz with q | q; exact Or.inl ⟨rfl, q.2⟩; omega⟩⟩
        | exact ⟨t6, _, rfl, hM6, hK6, Or.inr ⟨hv, by omega, by rw [Int.toNat_natCast]; rcases hz with q | q; omega; exact Or.inr ⟨rfl, q.2⟩⟩⟩
        | exact ⟨t6, _, rfl, hM6, hK6, Or.inl ⟨by omega, by omega, rfl⟩⟩)
    · have hv : 0 ≤ v ∧ v ≤ 999 := by omega
      obtain ⟨N, rfl⟩ := Int.eq_ofNat_of_zero_le hv.1
      refine g_iload_n C dX8_isPrime_24 rfl ?_
      refine g_callS C (c_X8_isNumberPrime _ (N := N) (by omega)) ml_RX8_264 sm_yX8_isNumberPrime in_RX8 co_yX8_isNumberPrime hd_X8_isNumberPrime rfl ⟨by omega, by omega⟩ rfl (Nat.le_of_ble_eq_true rfl) ⟨by omega, by omega⟩ dX8_isPrime_25 (fun v25 w25 hp25 => ?_)
      obtain ⟨⟨z, rfl, hz⟩, hw25⟩ := hp25
      subst w25
      refine g_if_eq (tgt := 35) C dX8_isPrime_28 (by decide) (by omega) (fun h28 => ?_) (fun h28 => ?_)
      · refine g_iconst C dX8_isPrime_35 ?_
        exact g_zreturn C hQ dX8_isPrime_36 (nar01 (by omega)) (Nat.le_refl _) (Nat.le_refl _) (by
          first
          | exact ⟨t6, _, rfl, hM6, hK6, Or.inr ⟨hv, by omega, by rw [Int.toNat_natCast]; rcases hz with q | q; exact Or.inl ⟨rfl, q.2⟩; omega⟩⟩
          | exact ⟨t6, _, rfl, hM6, hK6, Or.inr ⟨hv, by omega, by rw [Int.toNat_natCast]; rcases hz with q | q; omega; exact Or.inr ⟨rfl, q.2⟩⟩⟩
          | exact ⟨t6, _, rfl, hM6, hK6, Or.inl ⟨by omega, by omega, rfl⟩⟩)
      · refine g_iconst C dX8_isPrime_31 ?_
        refine g_goto (tgt := 36) C dX8_isPrime_32 (by decide) ?_
        exact g_zreturn C hQ dX8_isPrime_36 (nar01 (by omega)) (Nat.le_refl _) (Nat.le_refl _) (by
          first
          | exact ⟨t6, _, rfl, hM6, hK6, Or.inr ⟨hv, by omega, by rw [Int.toNat_natCast]; rcases hz with q | q; exact Or.inl ⟨rfl, q.2⟩; omega⟩⟩
          | exact ⟨t6, _, rfl, hM6, hK6, Or.inr ⟨hv, by omega, by rw [Int.toNat_natCast]; rcases hz with q | q; omega; exact Or.inr ⟨rfl, q.2⟩⟩⟩
          | exact ⟨t6, _, rfl, hM6, hK6, Or.inl ⟨by omega, by omega, rfl⟩⟩)
  refine g_if_ne (tgt := 16) C dX8_isPrime_9 (by decide) (bI_r _) (fun h9 => ?_) (fun h9 => ?_)
  · refine g_iconst C dX8_isPrime_16 ?_
    exact J17 _ (by first | exact Or.inl ⟨rfl, bI_1 h9⟩ | exact Or.inr ⟨rfl, bI_0 (Classical.not_not.mp h9)⟩)
  · refine g_iconst C dX8_isPrime_12 ?_
    refine g_goto (tgt := 17) C dX8_isPrime_13 (by decide) ?_
    exact J17 _ (by first | exact Or.inl ⟨rfl, bI_1 h9⟩ | exact Or.inr ⟨rfl, bI_0 (Classical.not_not.mp h9)⟩)
set_option maxHeartbeats 4000000 in
set_option maxRecDepth 100000 in
theorem c_X8_period (l : Launch) {E : GE} {w : Wd} {v : Int} (h_v : -2147483648 ≤ v ∧ v < 2147483648) {τ : Nat → Nat} {m : Nat} {A : MA} {th : Int} {ba st pb le ri : Nat → Int} {sp : Nat → Nat → Int} {ct : Nat → Int} (hM : MSx τ w m A th ba st pb le ri sp ct) : Sp E l yX8_period cX8_period 2 (some .int) 3 (16) (48) [.ref m, iI v] w (fun r' w' => ∃ (t : Int) (ans : Int), r' = some (iI ans) ∧ MSx τ w' m A (t) (ba) (st) (pb) (le) (ri) (sp) (ct) ∧ Keep τ w w' ∧ (¬ GB v ∧ t = 1 ∧ ans = 0 ∨ GB v ∧ t = 0 ∧ ∃ (r : Int) (p : Nat), RT v r ∧ isPer v r p ∧ ans = p)) := by
  refine sp_intro [some (.ref m), some (iI v)] rfl (Nat.le_of_ble_eq_true rfl) pn_X8 ?_
  intro X C hRm hl hnm hQ
  obtain ⟨hRf, hRl, hRc, hRs⟩ := hRm
  refine g_wf (fun hwf => ?_)
  refine g_aload_n C dX8_period_0 rfl ?_
  refine g_iload_n C dX8_period_1 rfl ?_
  refine g_callS C (c_X8_isNoBase _ (v := v) h_v) ml_RX8_152 sm_yX8_isNoBase in_RX8 co_yX8_isNoBase hd_X8_isNoBase rfl ⟨by omega, by omega⟩ rfl (Nat.le_of_ble_eq_true rfl) ⟨by omega, by omega⟩ dX8_period_2 (fun v2 w2 hp2 => ?_)
  obtain ⟨⟨yb, rfl, hyb⟩, hw2⟩ := hp2
  subst w2
  have hyb01 : yb = 0 ∨ yb = 1 := by rcases hyb with q | q <;> omega
  refine g_iconst C dX8_period_5 ?_
  refine g_callV C (c_X8_start _ hM (y := yb) (wh := 1) (by omega) (by omega)) (ci := 10) rfl hM.o rfl ml_RX8_149 im_yX8_start se_RX8_yX8_start in_RX8 co_yX8_start hd_X8_start rfl ⟨by omega, by omega⟩ rfl (Nat.le_of_ble_eq_true rfl) ⟨by omega, by omega⟩ dX8_period_6 (fun v6 w6 hp6 => ?_)
  obtain ⟨t6, rfl, ht6, hM6, hK6⟩ := hp6
  have hy6 : (yb) = 0 ∨ (yb) = 1 := (by omega)
  refine g_if_eq (tgt := 16) C dX8_period_9 (by decide) (by omega) (fun h9 => ?_) (fun h9 => ?_)
  · have hg : GB v := by rcases hyb with q | q; exact q.2; omega
    obtain ⟨r, hr⟩ := RT_ex hg
    refine g_iload_n C dX8_period_16 rfl ?_
    refine g_callS C (c_X8_periodOf _ (b := v) (r := r) hg hr) ml_RX8_142 sm_yX8_periodOf in_RX8 co_yX8_periodOf hd_X8_periodOf rfl ⟨by omega, by omega⟩ rfl (Nat.le_of_ble_eq_true rfl) ⟨by omega, by omega⟩ dX8_period_17 (fun v17 w17 hp17 => ?_)
    obtain ⟨p, rfl, hp, hx⟩ := hp17
    exact g_ireturn C hQ dX8_period_20 (by omega) (by omega) (by
      first
      | exact ⟨t6, _, rfl, hM6.ex hx, hK6.tr (Keep.ex hx), Or.inr ⟨hg, by omega, r, p, hr, hp, rfl⟩⟩
      | exact ⟨t6, 0, rfl, hM6, hK6, Or.inl ⟨by rcases hyb with q | q; omega; exact q.2, by omega, rfl⟩⟩)
  · refine g_iconst C dX8_period_12 ?_
    refine g_goto (tgt := 20) C dX8_period_13 (by decide) ?_
    exact g_ireturn C hQ dX8_period_20 (by omega) (by omega) (by
      first
      | exact ⟨t6, _, rfl, hM6.ex hx, hK6.tr (Keep.ex hx), Or.inr ⟨hg, by omega, r, p, hr, hp, rfl⟩⟩
      | exact ⟨t6, 0, rfl, hM6, hK6, Or.inl ⟨by rcases hyb with q | q; omega; exact q.2, by omega, rfl⟩⟩)
set_option maxHeartbeats 4000000 in
set_option maxRecDepth 100000 in
theorem c_X8_house (l : Launch) {E : GE} {w : Wd} {v : Int} (h_v : -2147483648 ≤ v ∧ v < 2147483648) {τ : Nat → Nat} {m : Nat} {A : MA} {th : Int} {ba st pb le ri : Nat → Int} {sp : Nat → Nat → Int} {ct : Nat → Int} (hM : MSx τ w m A th ba st pb le ri sp ct) : Sp E l yX8_house cX8_house 2 (some .int) 2 (0) (0) [.ref m, iI v] w (fun r w' => ∃ (t : Int) (ans : Int), r = some (iI ans) ∧ MSx τ w' m A (t) (ba) (st) (pb) (le) (ri) (sp) (ct) ∧ Keep τ w w' ∧ (¬ (0 ≤ v ∧ v ≤ 4) ∧ t = 1 ∧ ans = 0 ∨ (0 ≤ v ∧ v ≤ 4) ∧ t = 0 ∧ ans = ct v.toNat)) := by
  refine sp_intro [some (.ref m), some (iI v)] rfl (Nat.le_of_ble_eq_true rfl) pn_X8 ?_
  intro X C hRm hl hnm hQ
  obtain ⟨hRf, hRl, hRc, hRs⟩ := hRm
  refine g_wf (fun hwf => ?_)
  refine g_aload_n C dX8_house_0 rfl ?_
  refine g_iload_n C dX8_house_1 rfl ?_
  refine g_iconst C dX8_house_2 ?_
  refine g_iconst C dX8_house_3 ?_
  refine g_callS C (c_X8_isIn _ (v := v) (a := 0) (b := 4) h_v (by omega) (by omega)) ml_RX8_49 sm_yX8_isIn in_RX8 co_yX8_isIn hd_X8_isIn rfl ⟨by omega, by omega⟩ rfl (Nat.le_of_ble_eq_true rfl) ⟨by omega, by omega⟩ dX8_house_4 (fun v4 w4 hp4 => ?_)
  obtain ⟨rfl, hw4⟩ := hp4
  subst w4
  have J15 : ∀ y : Int, (y = 0 ∧ (0 ≤ v ∧ v ≤ 4) ∨ y = 1 ∧ ¬ (0 ≤ v ∧ v ≤ 4)) → G E X 2 15 [some (.ref m), some (iI v)] [iI y, .ref m] w 0 0 := by
    intro y hy
    refine g_iconst C dX8_house_15 ?_
    refine g_callV C (c_X8_start _ hM (y := y) (wh := 1) (by omega) (by omega)) (ci := 10) rfl hM.o rfl ml_RX8_149 im_yX8_start se_RX8_yX8_start in_RX8 co_yX8_start hd_X8_start rfl ⟨by omega, by omega⟩ rfl (Nat.le_of_ble_eq_true rfl) ⟨by omega, by omega⟩ dX8_house_16 (fun v16 w16 hp16 => ?_)
    obtain ⟨t6, rfl, ht6, hM6, hK6⟩ := hp16
    have hy6 : (y) = 0 ∨ (y) = 1 := (by omega)
    refine g_if_eq (tgt := 26) C dX8_house_19 (by decide) (by omega) (fun h19 => ?_) (fun h19 => ?_)
    · refine g_aload_n C dX8_house_26 rfl ?_
      refine g_get (ci := 10) C rfl inTX8 7 (by decide) fl_RX8_38 rfl hM6.o rfl dX8_house_27 ?_
      refine g_iload_n C dX8_house_30 rfl ?_
      refine g_ialoadN (v.toNat) C hM6.c (by omega) (by omega) dX8_house_31 ?_
      exact g_ireturn C hQ dX8_house_32 (Nat.le_refl _) (Nat.le_refl _) (by
        first
        | exact ⟨t6, _, rfl, hM6, hK6, Or.inr ⟨by omega, by omega, rfl⟩⟩
        | exact ⟨t6, 0, rfl, hM6, hK6, Or.inl ⟨by omega, by omega, rfl⟩⟩)
    · refine g_iconst C dX8_house_22 ?_
      refine g_goto (tgt := 32) C dX8_house_23 (by decide) ?_
      exact g_ireturn C hQ dX8_house_32 (Nat.le_refl _) (Nat.le_refl _) (by
        first
        | exact ⟨t6, _, rfl, hM6, hK6, Or.inr ⟨by omega, by omega, rfl⟩⟩
        | exact ⟨t6, 0, rfl, hM6, hK6, Or.inl ⟨by omega, by omega, rfl⟩⟩)
  refine g_if_ne (tgt := 14) C dX8_house_7 (by decide) (bI_r _) (fun h7 => ?_) (fun h7 => ?_)
  · refine g_iconst C dX8_house_14 ?_
    exact J15 _ (by first | exact Or.inl ⟨rfl, bI_1 h7⟩ | exact Or.inr ⟨rfl, bI_0 (Classical.not_not.mp h7)⟩)
  · refine g_iconst C dX8_house_10 ?_
    refine g_goto (tgt := 15) C dX8_house_11 (by decide) ?_
    exact J15 _ (by first | exact Or.inl ⟨rfl, bI_1 h7⟩ | exact Or.inr ⟨rfl, bI_0 (Classical.not_not.mp h7)⟩)
set_option maxHeartbeats 4000000 in
set_option maxRecDepth 100000 in
theorem c_X8_knock (l : Launch) {E : GE} {w : Wd} {τ : Nat → Nat} {m : Nat} {A : MA} {th : Int} {ba st pb le ri : Nat → Int} {sp : Nat → Nat → Int} {ct : Nat → Int} (hM : MSx τ w m A th ba st pb le ri sp ct) : Sp E l yX8_knock cX8_knock 1 (some .int) 0 (0) (0) [.ref m] w (fun r w' => r = some (iI (ct 4 + 1)) ∧ MSx τ w' m A (0) (ba) (st) (pb) (le) (ri) (sp) (iup ct 4 (ct 4 + 1)) ∧ Keep τ w w') := by
  refine sp_intro [some (.ref m)] rfl (Nat.le_of_ble_eq_true rfl) pn_X8 ?_
  intro X C hRm hl hnm hQ
  obtain ⟨hRf, hRl, hRc, hRs⟩ := hRm
  refine g_wf (fun hwf => ?_)
  refine g_aload_n C dX8_knock_0 rfl ?_
  refine g_iconst C dX8_knock_1 ?_
  refine g_put (ci := 10) C rfl inTX8 tyX8 tyX8_ok nmX8 0 (by decide) fl_RX8_41 rfl rfl hM.o (Nat.le_of_ble_eq_true rfl) rfl rfl dX8_knock_2 ?_
  refine g_aload_n C dX8_knock_5 rfl ?_
  refine g_get (ci := 10) C rfl inTX8 7 (by decide) fl_RX8_38 rfl (hM.setO 0).o rfl dX8_knock_6 ?_
  refine g_iconst C dX8_knock_9 ?_
  refine g_dup2 C dX8_knock_10 rfl rfl ?_
  refine g_ialoadN (4) C (hM.setO 0).c (by omega) (by omega) dX8_knock_11 ?_
  refine g_iconst C dX8_knock_12 ?_
  refine g_iadd C dX8_knock_13 ?_
  refine g_iastoreN (4) C (hM.setO 0).c (by omega) (by omega) dX8_knock_14 ?_
  refine g_aload_n C dX8_knock_15 rfl ?_
  refine g_get (ci := 10) C rfl inTX8 7 (by decide) fl_RX8_38 rfl ((hM.setO 0).setC _).o rfl dX8_knock_16 ?_
  refine g_iconst C dX8_knock_19 ?_
  refine g_ialoadN (4) C ((hM.setO 0).setC _).c (by omega) (by omega) dX8_knock_20 ?_
  rw [iup_s]
  exact g_ireturn C hQ dX8_knock_21 (Nat.le_refl _) (Nat.le_refl _) ⟨rfl, (hM.setO 0).setC _, (Keep.set _ (by have := hM.tg; omega)).tr (Keep.set _ (by have := hM.tg; omega))⟩
set_option maxHeartbeats 4000000 in
set_option maxRecDepth 100000 in
theorem c_X8_pairBase (l : Launch) {E : GE} {w : Wd} {v : Int} (h_v : -2147483648 ≤ v ∧ v < 2147483648) {τ : Nat → Nat} {m : Nat} {A : MA} {th : Int} {ba st pb le ri : Nat → Int} {sp : Nat → Nat → Int} {ct : Nat → Int} (hM : MSx τ w m A th ba st pb le ri sp ct) : Sp E l yX8_pairBase cX8_pairBase 2 (some .int) 2 (0) (0) [.ref m, iI v] w (fun r w' => ∃ (t : Int) (ans : Int), r = some (iI ans) ∧ MSx τ w' m A (t) (ba) (st) (pb) (le) (ri) (sp) (ct) ∧ Keep τ w w' ∧ (¬ (0 ≤ v ∧ v ≤ 2) ∧ t = 1 ∧ ans = 0 ∨ (0 ≤ v ∧ v ≤ 2) ∧ t = 0 ∧ ans = pb v.toNat)) := by
  refine sp_intro [some (.ref m), some (iI v)] rfl (Nat.le_of_ble_eq_true rfl) pn_X8 ?_
  intro X C hRm hl hnm hQ
  obtain ⟨hRf, hRl, hRc, hRs⟩ := hRm
  refine g_wf (fun hwf => ?_)
  refine g_aload_n C dX8_pairBase_0 rfl ?_
  refine g_iload_n C dX8_pairBase_1 rfl ?_
  refine g_callS C (c_X8_isNo _ (v := v) h_v) ml_RX8_145 sm_yX8_isNo in_RX8 co_yX8_isNo hd_X8_isNo rfl ⟨by omega, by omega⟩ rfl (Nat.le_of_ble_eq_true rfl) ⟨by omega, by omega⟩ dX8_pairBase_2 (fun v2 w2 hp2 => ?_)
  obtain ⟨rfl, hw2⟩ := hp2
  subst w2
  refine g_iconst C dX8_pairBase_5 ?_
  refine g_callV C (c_X8_start _ hM (y := bI (¬ (0 ≤ v ∧ v ≤ 2))) (wh := 1) (bI_01 _) (by omega)) (ci := 10) rfl hM.o rfl ml_RX8_149 im_yX8_start se_RX8_yX8_start in_RX8 co_yX8_start hd_X8_start rfl ⟨by omega, by omega⟩ rfl (Nat.le_of_ble_eq_true rfl) ⟨by omega, by omega⟩ dX8_pairBase_6 (fun v6 w6 hp6 => ?_)
  obtain ⟨t6, rfl, ht6, hM6, hK6⟩ := hp6
  have hy6 : (bI (¬ (0 ≤ v ∧ v ≤ 2))) = 0 ∨ (bI (¬ (0 ≤ v ∧ v ≤ 2))) = 1 := (bI_01 _)
  refine g_if_eq (tgt := 16) C dX8_pairBase_9 (by decide) (bI_r _) (fun h9 => ?_) (fun h9 => ?_)
  · have hwk : 0 ≤ v ∧ v ≤ 2 := Classical.not_not.mp (bI_0 h9)
    refine g_aload_n C dX8_pairBase_16 rfl ?_
    refine g_get (ci := 10) C rfl inTX8 3 (by decide) fl_RX8_16 rfl hM6.o rfl dX8_pairBase_17 ?_
    refine g_iload_n C dX8_pairBase_20 rfl ?_
    refine g_ialoadN (v.toNat) C hM6.p (by omega) (by omega) dX8_pairBase_21 ?_
    exact g_ireturn C hQ dX8_pairBase_22 (Nat.le_refl _) (Nat.le_refl _) (by
      first
      | exact ⟨t6, _, rfl, hM6, hK6, Or.inr ⟨hwk, by omega, rfl⟩⟩
      | exact ⟨t6, 0, rfl, hM6, hK6, Or.inl ⟨bI_1 h9, by omega, rfl⟩⟩)
  · refine g_iconst C dX8_pairBase_12 ?_
    refine g_goto (tgt := 22) C dX8_pairBase_13 (by decide) ?_
    exact g_ireturn C hQ dX8_pairBase_22 (Nat.le_refl _) (Nat.le_refl _) (by
      first
      | exact ⟨t6, _, rfl, hM6, hK6, Or.inr ⟨hwk, by omega, rfl⟩⟩
      | exact ⟨t6, 0, rfl, hM6, hK6, Or.inl ⟨bI_1 h9, by omega, rfl⟩⟩)
set_option maxHeartbeats 4000000 in
set_option maxRecDepth 100000 in
theorem c_X8_wayOf (l : Launch) {E : GE} {w : Wd} {p : Nat} (hS : SPb p = true) : Sp E l yX8_wayOf cX8_wayOf 2 (some (.array .int)) 4 (22) (128) [iI (p : Int)] w (fun r w' => ∃ (q : Nat) (f : Nat → Int) (j : Nat), r = some (.ref q) ∧ w'.2 q = some (true, eI 2 f) ∧ SV p j ∧ f 0 = (spS p j).1 ∧ f 1 = (spS p j).2.1 ∧ (spS p j).1 * (spS p j).1 < p ∧ (∀ i, i < j → p ≤ (spS p i).1 * (spS p i).1) ∧ Fr w w') := by
  refine sp_intro [some (iI (p : Int)), none] rfl (Nat.le_of_ble_eq_true rfl) pn_X8 ?_
  intro X C hRm hl hnm hQ
  obtain ⟨hRf, hRl, hRc, hRs⟩ := hRm
  refine g_wf (fun hwf => ?_)
  refine g_iload_n C dX8_wayOf_0 rfl ?_
  refine g_callS C (c_X8_begun _ hS) ml_RX8_31 sm_yX8_begun in_RX8 co_yX8_begun hd_X8_begun rfl ⟨by omega, by omega⟩ rfl (Nat.le_of_ble_eq_true rfl) ⟨by omega, by omega⟩ dX8_wayOf_1 (fun v1 w1 hp1 => ?_)
  obtain ⟨f, rfl, rfl, hRf⟩ := hp1
  refine g_astore_n C dX8_wayOf_4 (by decide) rfl ?_
  refine g_aload_n C dX8_wayOf_5 rfl ?_
  refine g_callS C (c_X8_settled _ (a := w.1) wpush_s hRf) ml_RX8_267 sm_yX8_settled in_RX8 co_yX8_settled hd_X8_settled rfl ⟨by omega, by omega⟩ rfl (Nat.le_of_ble_eq_true rfl) ⟨by omega, by omega⟩ dX8_wayOf_6 (fun v6 w6 hp6 => ?_)
  obtain ⟨j, g, rfl, hg, hRg, fx, hlt, hall⟩ := hp6
  refine g_wf (fun hwf6 => ?_)
  have hq6 := hwf6 _ _ hg
  rw [Nat.zero_add] at hRg hlt hall
  refine g_pop C dX8_wayOf_9 rfl ?_
  refine g_iconst C dX8_wayOf_10 ?_
  refine g_newI C gw_arrayClass_int (N := 2) rfl (by omega) (by omega) dX8_wayOf_11 ?_
  refine g_dup C dX8_wayOf_13 rfl ?_
  refine g_iconst C dX8_wayOf_14 ?_
  refine g_aload_n C dX8_wayOf_15 rfl ?_
  refine g_iconst C dX8_wayOf_16 ?_
  refine g_ialoadN (1) C (by rw [wpush_n (by omega)]; exact hg) (by omega) (by omega) dX8_wayOf_17 ?_
  refine g_iastore C wpush_s (by omega) dX8_wayOf_18 ?_
  rw [wset_push]
  refine g_dup C dX8_wayOf_19 rfl ?_
  refine g_iconst C dX8_wayOf_20 ?_
  refine g_aload_n C dX8_wayOf_21 rfl ?_
  refine g_iconst C dX8_wayOf_22 ?_
  refine g_ialoadN (2) C (by rw [wpush_n (by omega)]; exact hg) (by omega) (by omega) dX8_wayOf_23 ?_
  refine g_iastore C wpush_s (by omega) dX8_wayOf_24 ?_
  rw [wset_push]
  exact g_areturn C (Or.inr ⟨_, rfl⟩) hQ (Or.inr ⟨_, rfl⟩) dX8_wayOf_25 (by omega) (by omega) ⟨_, _, j, rfl, wpush_s, hRg.1, hRg.2.2.1, hRg.2.2.2.1, hlt, fun i hi => hall i (Nat.zero_le i) hi, ⟨by have := fx.1; show w.1 ≤ w6.1 + 1; have h2 : w.1 + 1 ≤ w6.1 := this; omega, fun b hb => by
    rw [wpush_n (by have h2 : w.1 + 1 ≤ w6.1 := fx.1; omega), fx.2 b (by show b < w.1 + 1; omega) (by omega), wpush_n (by omega)]⟩⟩
