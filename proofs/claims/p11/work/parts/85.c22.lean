set_option maxHeartbeats 4000000 in
set_option maxRecDepth 100000 in
theorem s_X3_number (l : Launch) {E : GE} {w : Wd} {a p k : Nat} {f : Nat → Int} {z : Int} (hR : SpR f p k) (hO0 : w.2 a = some (true, oS p k)) (hz : 0 ≤ z ∧ z ≤ 7) : Sp E l yX3_number cX3_number 2 (some .int) 0 (0) (0) [.ref a, iI z] w (fun r' w' => r' = some (iI (szV f z)) ∧ w' = w) := by
  refine sp_intro [some (.ref a), some (iI z)] rfl (Nat.le_of_ble_eq_true rfl) pn_X3 ?_
  intro X C hRm hl hnm hQ
  obtain ⟨hRf, hRl, hRc, hRs⟩ := hRm
  refine g_wf (fun hwf => ?_)
  obtain ⟨hV, f0, f1, f2, f3, f4, f5⟩ := hR
  have hO := hO0
  rw [oS_eq] at hO
  refine g_iload_n C dX3_number_0 rfl ?_
  rcases (show z = 0 ∨ z = 1 ∨ z = 2 ∨ z = 3 ∨ z = 4 ∨ z = 5 ∨ z = 6 ∨ z = 7 by omega) with q | q | q | q | q | q | q | q <;> subst q
  · refine g_tin (tgt := 44) C dX3_number_1 (by omega) (by omega) rfl rfl ?_
    refine g_aload_n C dX3_number_44 rfl ?_
    refine g_get (ci := 5) C rfl inTX3 0 (by decide) fl_RX3_15 rfl hO rfl dX3_number_45 ?_
    exact g_ireturn C hQ dX3_number_48 (Nat.le_refl _) (Nat.le_refl _) ⟨by unfold szV; simp [f0, f1, f2, f3, f4, f5], rfl⟩
  · refine g_tin (tgt := 49) C dX3_number_1 (by omega) (by omega) rfl rfl ?_
    refine g_aload_n C dX3_number_49 rfl ?_
    refine g_get (ci := 5) C rfl inTX3 1 (by decide) fl_RX3_23 rfl hO rfl dX3_number_50 ?_
    exact g_ireturn C hQ dX3_number_53 (Nat.le_refl _) (Nat.le_refl _) ⟨by unfold szV; simp [f0, f1, f2, f3, f4, f5], rfl⟩
  · refine g_tin (tgt := 54) C dX3_number_1 (by omega) (by omega) rfl rfl ?_
    refine g_aload_n C dX3_number_54 rfl ?_
    refine g_get (ci := 5) C rfl inTX3 2 (by decide) fl_RX3_30 rfl hO rfl dX3_number_55 ?_
    exact g_ireturn C hQ dX3_number_58 (Nat.le_refl _) (Nat.le_refl _) ⟨by unfold szV; simp [f0, f1, f2, f3, f4, f5], rfl⟩
  · refine g_tin (tgt := 59) C dX3_number_1 (by omega) (by omega) rfl rfl ?_
    refine g_aload_n C dX3_number_59 rfl ?_
    refine g_get (ci := 5) C rfl inTX3 3 (by decide) fl_RX3_33 rfl hO rfl dX3_number_60 ?_
    exact g_ireturn C hQ dX3_number_63 (Nat.le_refl _) (Nat.le_refl _) ⟨by unfold szV; simp [f0, f1, f2, f3, f4, f5], rfl⟩
  · refine g_tin (tgt := 64) C dX3_number_1 (by omega) (by omega) rfl rfl ?_
    refine g_aload_n C dX3_number_64 rfl ?_
    refine g_get (ci := 5) C rfl inTX3 4 (by decide) fl_RX3_36 rfl hO rfl dX3_number_65 ?_
    exact g_ireturn C hQ dX3_number_68 (Nat.le_refl _) (Nat.le_refl _) ⟨by unfold szV; simp [f0, f1, f2, f3, f4, f5], rfl⟩
  · refine g_tin (tgt := 69) C dX3_number_1 (by omega) (by omega) rfl rfl ?_
    refine g_aload_n C dX3_number_69 rfl ?_
    refine g_get (ci := 5) C rfl inTX3 5 (by decide) fl_RX3_39 rfl hO rfl dX3_number_70 ?_
    exact g_ireturn C hQ dX3_number_73 (Nat.le_refl _) (Nat.le_refl _) ⟨by unfold szV; simp [f0, f1, f2, f3, f4, f5], rfl⟩
  · refine g_tin (tgt := 74) C dX3_number_1 (by omega) (by omega) rfl rfl ?_
    refine g_aload_n C dX3_number_74 rfl ?_
    refine g_get (ci := 5) C rfl inTX3 6 (by decide) fl_RX3_42 rfl hO rfl dX3_number_75 ?_
    exact g_ireturn C hQ dX3_number_78 (Nat.le_refl _) (Nat.le_refl _) ⟨by unfold szV; simp [f0, f1, f2, f3, f4, f5], rfl⟩
  · refine g_tout (tgt := 79) C dX3_number_1 (by omega) (by omega) rfl ?_
    refine g_aload_n C dX3_number_79 rfl ?_
    refine g_get (ci := 5) C rfl inTX3 7 (by decide) fl_RX3_45 rfl hO rfl dX3_number_80 ?_
    exact g_ireturn C hQ dX3_number_83 (Nat.le_refl _) (Nat.le_refl _) ⟨by unfold szV; simp [f0, f1, f2, f3, f4, f5], rfl⟩
