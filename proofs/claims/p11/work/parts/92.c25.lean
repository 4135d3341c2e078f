set_option maxHeartbeats 4000000 in
set_option maxRecDepth 100000 in
theorem s_X6_refuse (l : Launch) {E : GE} {w : Wd} {τ ad : Nat → Nat} {bs ss : Nat → Int} {pb : Nat → PT} {P Q : Nat → Nat} {ct : Nat → Int} (hC0 : CS τ ad w bs ss pb P Q ct) : Sp E l yX6_refuse cX6_refuse 1 (some .int) 0 (0) (0) [.ref (ad 100)] w (fun r' w' => r' = some (iI (-9)) ∧ CS τ ad w' (bs) (ss) (pb) (P) (Q) (iup ct 3 (ct 3 + 1)) ∧ KO τ w w') := by
  refine sp_intro [some (.ref (ad 100))] rfl (Nat.le_of_ble_eq_true rfl) pn_X6 ?_
  intro X C hRm hl hnm hQ
  obtain ⟨hRf, hRl, hRc, hRs⟩ := hRm
  refine g_wf (fun hwf => ?_)
  have hC := hC0
  have hK : KO τ w w := KO.rf _ _
  refine g_aload_n C dX6_refuse_0 rfl ?_
  refine g_dup C dX6_refuse_1 rfl ?_
  refine g_get (ci := 8) C rfl inTX6 13 (by decide) fl_RX6_305 rfl hC.o rfl dX6_refuse_2 ?_
  refine g_iconst C dX6_refuse_5 ?_
  refine g_iadd C dX6_refuse_6 ?_
  refine g_put (ci := 8) C rfl inTX6 tyX6 tyX6_ok nmX6 13 (by decide) fl_RX6_305 rfl rfl hC.o (Nat.le_of_ble_eq_true rfl) rfl rfl dX6_refuse_7 ?_
  refine g_gen (fun v7 hv7 => ?_)
  replace hv7 : v7 = wset _ (ad 100) (true, oX ad (iup ct 3 (ct 3 + 1))) := hv7
  have hq7 := hC.so (iup ct 3 (ct 3 + 1))
  rw [← hv7] at hq7
  replace hC := hq7.1
  replace hK := hK.tr hq7.2
  refine g_bipush C dX6_refuse_10 (by decide) ?_
  exact g_ireturn C hQ dX6_refuse_12 (Nat.le_refl _) (Nat.le_refl _) ⟨rfl, hC, hK⟩
set_option maxHeartbeats 4000000 in
set_option maxRecDepth 100000 in
theorem s_X6_checkThing (l : Launch) {E : GE} {w : Wd} {v : Int} (hv : 0 ≤ v ∧ v ≤ 2) : Sp E l yX6_checkThing cX6_checkThing 1 none 0 (0) (0) [iI v] w (fun r' w' => r' = none ∧ w' = w) := by
  refine sp_intro [some (iI v)] rfl (Nat.le_of_ble_eq_true rfl) pn_X6 ?_
  intro X C hRm hl hnm hQ
  obtain ⟨hRf, hRl, hRc, hRs⟩ := hRm
  refine g_wf (fun hwf => ?_)
  refine g_iload_n C dX6_checkThing_0 rfl ?_
  refine g_if_lt (tgt := 9) C dX6_checkThing_1 (by decide) (by omega) (fun h1 => ?_) (fun h1 => ?_)
  · omega
  · refine g_iload_n C dX6_checkThing_4 rfl ?_
    refine g_iconst C dX6_checkThing_5 ?_
    refine g_icmp_lt (tgt := 20) C dX6_checkThing_6 (by decide) (by omega) (by omega) (fun h6 => ?_) (fun h6 => ?_)
    · exact g_return C hQ dX6_checkThing_20 (Nat.le_refl _) (Nat.le_refl _) ⟨rfl, rfl⟩
    · omega
set_option maxHeartbeats 4000000 in
set_option maxRecDepth 100000 in
theorem s_X6_checkRange (l : Launch) {E : GE} {w : Wd} {v lo hi : Int} (hv : lo ≤ v ∧ v ≤ hi) (hl : -2147483648 ≤ lo) (hh : hi < 2147483648) : Sp E l yX6_checkRange cX6_checkRange 3 none 0 (0) (0) [iI v, iI lo, iI hi] w (fun r' w' => r' = none ∧ w' = w) := by
  refine sp_intro [some (iI v), some (iI lo), some (iI hi)] rfl (Nat.le_of_ble_eq_true rfl) pn_X6 ?_
  intro X C hRm hl hnm hQ
  obtain ⟨hRf, hRl, hRc, hRs⟩ := hRm
  refine g_wf (fun hwf => ?_)
  refine g_iload_n C dX6_checkRange_0 rfl ?_
  refine g_iload_n C dX6_checkRange_1 rfl ?_
  refine g_icmp_lt (tgt := 10) C dX6_checkRange_2 (by decide) (by omega) (by omega) (fun h2 => ?_) (fun h2 => ?_)
  · omega
  · refine g_iload_n C dX6_checkRange_5 rfl ?_
    refine g_iload_n C dX6_checkRange_6 rfl ?_
    refine g_icmp_le (tgt := 21) C dX6_checkRange_7 (by decide) (by omega) (by omega) (fun h7 => ?_) (fun h7 => ?_)
    · exact g_return C hQ dX6_checkRange_21 (Nat.le_refl _) (Nat.le_refl _) ⟨rfl, rfl⟩
    · omega
set_option maxHeartbeats 4000000 in
set_option maxRecDepth 100000 in
theorem s_X6_checkBase (l : Launch) {E : GE} {w : Wd} {v : Int} (hv : GB v) : Sp E l yX6_checkBase cX6_checkBase 2 none 1 (0) (0) [iI v] w (fun r' w' => r' = none ∧ w' = w) := by
  refine sp_intro [some (iI v), none] rfl (Nat.le_of_ble_eq_true rfl) pn_X6 ?_
  intro X C hRm hl hnm hQ
  obtain ⟨hRf, hRl, hRc, hRs⟩ := hRm
  refine g_wf (fun hwf => ?_)
  have h1 := hv.1
  have h2 := hv.2.1
  refine g_iload_n C dX6_checkBase_0 rfl ?_
  refine g_iconst C dX6_checkBase_1 ?_
  refine g_bipush C dX6_checkBase_2 (by decide) ?_
  refine g_callS C (s_X6_checkRange _ (v := v) (lo := 2) (hi := 99) (by omega) (by omega) (by omega)) ml_RX6_82 sm_yX6_checkRange in_RX6 co_yX6_checkRange hd_X6_checkRange rfl ⟨by omega, by omega⟩ rfl (Nat.le_of_ble_eq_true rfl) ⟨by omega, by omega⟩ dX6_checkBase_4 (fun v4 w4 hp4 => ?_)
  obtain ⟨rfl, hw4⟩ := hp4
  subst w4
  refine g_iload_n C dX6_checkBase_7 rfl ?_
  refine g_callS C (s_X6_rootOf _ (b := v) (by omega)) ml_RX6_78 sm_yX6_rootOf in_RX6 co_yX6_rootOf hd_X6_rootOf rfl ⟨by omega, by omega⟩ rfl (Nat.le_of_ble_eq_true rfl) ⟨by omega, by omega⟩ dX6_checkBase_8 (fun v8 w8 hp8 => ?_)
  obtain ⟨⟨r8, rfl, hr8⟩, hw8⟩ := hp8
  subst w8
  refine g_istore_n C dX6_checkBase_11 (by decide) rfl ?_
  refine g_iload_n C dX6_checkBase_12 rfl ?_
  refine g_iload_n C dX6_checkBase_13 rfl ?_
  refine g_imul C dX6_checkBase_14 ?_
  refine g_iload_n C dX6_checkBase_15 rfl ?_
  refine g_icmp_ne (tgt := 30) C dX6_checkBase_16 (by decide) (by have := hr8.2.1; have := Int.mul_nonneg hr8.1 hr8.1; omega) (by omega) (fun h16 => ?_) (fun h16 => ?_)
  · exact g_return C hQ dX6_checkBase_30 (Nat.le_refl _) (Nat.le_refl _) ⟨rfl, rfl⟩
  · exact absurd (Classical.not_not.mp h16) (hv.2.2 _)
theorem FN.kn {τ ad : Nat → Nat} {w w' : Wd} {b r : Int} (h : FN ad w b r) (k : KN τ w w') (hN : NS τ ad w') : FN ad w' b r := fun i hi => ⟨k.nw hN (by omega) (h i hi).1, k.nw hN (by omega) (h i hi).2⟩
theorem FN.top {ad : Nat → Nat} {w : Wd} {b r : Int} (h : FN ad w b r) {k : Int} (hk : 0 ≤ k ∧ k ≤ 25) {j : Nat} (hj : (j : Int) = 17 + k) : NW ad w j (pq b r 1 r k.toNat).1 := by
  have := (h (k.toNat + 1) (by omega)).1
  rw [show 16 + (k.toNat + 1) = j by omega] at this
  exact this
theorem FN.bot {ad : Nat → Nat} {w : Wd} {b r : Int} (h : FN ad w b r) {k : Int} (hk : 0 ≤ k ∧ k ≤ 25) {j : Nat} (hj : (j : Int) = 44 + k) : NW ad w j (pq b r 0 1 k.toNat).1 := by
  have := (h (k.toNat + 1) (by omega)).2
  rw [show 43 + (k.toNat + 1) = j by omega] at this
  exact this
theorem FN.topB {ad : Nat → Nat} {w : Wd} {b r : Int} (h : FN ad w b r) {k : Int} (hk : 0 ≤ k ∧ k ≤ 25) {j : Nat} (hj : (j : Int) = 16 + k) : NW ad w j (pq b r 1 r k.toNat).2 := by
  have := (h k.toNat (by omega)).1
  rw [show 16 + k.toNat = j by omega] at this
  exact this
theorem FN.botB {ad : Nat → Nat} {w : Wd} {b r : Int} (h : FN ad w b r) {k : Int} (hk : 0 ≤ k ∧ k ≤ 25) {j : Nat} (hj : (j : Int) = 43 + k) : NW ad w j (pq b r 0 1 k.toNat).2 := by
  have := (h k.toNat (by omega)).2
  rw [show 43 + k.toNat = j by omega] at this
  exact this
theorem pq_a {b r x y : Int} (hb : GB b) (hr : RT b r) (h0 : 0 ≤ x ∧ x ≤ 1) (h1 : 0 ≤ y ∧ y ≤ 9) {k : Nat} (hk : k ≤ 25) : aB (pq b r x y k).1 < M125 ∧ aB (pq b r x y k).2 < M125 := ⟨row_a hb hr h0 h1 (k := k + 1) (by omega), row_a hb hr h0 h1 (k := k) (by omega)⟩
/-- what is known of a walk's numbers -/
def wkF (b r : Int) (k : Nat) : Prop := (aB (pq b r 1 r k).1 < M125 ∧ aB (pq b r 1 r k).2 < M125) ∧ (aB (pq b r 0 1 k).1 < M125 ∧ aB (pq b r 0 1 k).2 < M125) ∧ (pq b r 1 r k).1 * (pq b r 0 1 k).2 - (pq b r 1 r k).2 * (pq b r 0 1 k).1 = (if k % 2 = 1 then 1 else -1) ∧ (pq b r 1 r k).1 * (pq b r 1 r k).1 - b * ((pq b r 0 1 k).1 * (pq b r 0 1 k).1) = (if k % 2 = 1 then (cf b r (k + 1)).2.1 else -(cf b r (k + 1)).2.1) ∧ 0 < (pq b r 1 r k).1 ∧ 0 < (pq b r 0 1 k).1 ∧ (pq b r 1 r k).1 ≤ 10 * (pq b r 0 1 k).1
theorem wk_f {b r : Int} (hb : GB b) (hr : RT b r) {k : Nat} (hk : k ≤ 25) : wkF b r k := by
  have h9 := RT_le hb hr
  exact ⟨pq_a hb hr (x := 1) (y := r) (by omega) (by omega) hk, pq_a hb hr (x := 0) (y := 1) (by omega) (by omega) hk, wk_good hb hr hk⟩
/-- the number that walkNumber tells -/
def wnV (b r : Int) (k : Nat) (z : Int) : Int := if z = 0 then (pq b r 1 r k).1 else if z = 1 then (pq b r 0 1 k).1 else if z = 2 then (pq b r 1 r k).2 else (pq b r 0 1 k).2
set_option maxHeartbeats 4000000 in
set_option maxRecDepth 100000 in
theorem s_X6_unfold (l : Launch) {K : KC} {E : GE} {w : Wd} {τ ad : Nat → Nat} {bs ss : Nat → Int} {pb : Nat → PT} {P Q : Nat → Nat} {ct : Nat → Int} (hC0 : CS τ ad w bs ss pb P Q ct) {i : Nat} (hi : i < 3) : St K E l yX6_unfold cX6_unfold 2 (some (.object "Rootwalk$Walk")) 5 (0) (0) [.ref (ad 100), iI (i : Int)] w (fun r' w' => r' = some (.ref (ad (120 + i))) ∧ (∃ r m d a, FS ad w' (bs i) r m d a ∧ FV (bs i) r m d a ∧ FN ad w' (bs i) r) ∧ CS τ ad w' (bs) (ss) (pb) (P) (Q) (ct) ∧ KO τ w w') := by
  refine st_intro [some (.ref (ad 100)), some (iI (i : Int))] rfl (Nat.le_of_ble_eq_true rfl) pn_X6 ?_
  intro X C hT hRm hl hnm hQ
  obtain ⟨hRf, hRl, hRc, hRs⟩ := hRm
  refine g_wf (fun hwf => ?_)
  have hC := hC0
  have hK : KO τ w w := KO.rf _ _
  obtain ⟨fb, fr, m0, d0, a0, hF0, hv0, hb0⟩ := hC.F
  have hgb := (hC.W i (by omega)).2.1
  refine g_aload_n C dX6_unfold_0 rfl ?_
  refine g_get (ci := 8) C rfl inTX6 3 (by decide) fl_RX6_30 rfl hC.o rfl dX6_unfold_1 ?_
  refine g_aload_n C dX6_unfold_4 rfl ?_
  refine g_get (ci := 8) C rfl inTX6 0 (by decide) fl_RX6_11 rfl hC.o rfl dX6_unfold_5 ?_
  refine g_iload_n C dX6_unfold_8 rfl ?_
  refine g_aaloadN (i) C rfl rfl hC.A.1.choose_spec.1 (by omega) (by omega) (hC.A.1.choose_spec.2 _ (by omega)) dX6_unfold_9 ?_
  refine g_get (ci := 6) C rfl inTX4 0 (by decide) fl_RX6_68 rfl (hC.W i (by omega)).1 rfl dX6_unfold_10 ?_
  refine t_callV C hT (s_X1_expand _ hC.N hF0 hv0 hb0 hgb) (RcV.ob (ci := 3) C rfl hF0.1) rfl ml_RX6_152 im_yX1_expand se_RX1_yX1_expand in_RX1 co_yX1_expand hd_X1_expand rfl ⟨by omega, by omega⟩ rfl (Nat.le_of_ble_eq_true rfl) ⟨by omega, by omega⟩ dX6_unfold_13 (fun v13 w13 hp13 => ?_)
  obtain ⟨rfl, r1, m1, d1, a1, F1, V1, G1, N1, K1⟩ := hp13
  replace hC := hC.kf K1 N1 ⟨_, _, _, _, _, F1, Or.inr ⟨V1, G1⟩, by have := hgb.1; have := hgb.2.1; omega⟩
  replace hK := hK.tr K1.kc
  refine g_aload_n C dX6_unfold_16 rfl ?_
  refine g_get (ci := 8) C rfl inTX6 0 (by decide) fl_RX6_11 rfl hC.o rfl dX6_unfold_17 ?_
  refine g_iload_n C dX6_unfold_20 rfl ?_
  refine g_aaloadN (i) C rfl rfl hC.A.1.choose_spec.1 (by omega) (by omega) (hC.A.1.choose_spec.2 _ (by omega)) dX6_unfold_21 ?_
  exact g_areturn C (Or.inl ⟨_, rfl⟩) hQ (Or.inr ⟨_, rfl⟩) dX6_unfold_22 (by omega) (by omega) ⟨rfl, ⟨r1, m1, d1, a1, F1, V1, G1⟩, hC, hK⟩
set_option maxHeartbeats 4000000 in
set_option maxRecDepth 100000 in
theorem s_X6_walkPart (l : Launch) {E : GE} {w : Wd} {τ ad : Nat → Nat} {bs ss : Nat → Int} {pb : Nat → PT} {P Q : Nat → Nat} {ct : Nat → Int} (hC0 : CS τ ad w bs ss pb P Q ct) {i : Nat} (hi : i < 3) {r : Int} {m d a : Nat → Int} (hF0 : FS ad w (bs i) r m d a) (hV : FV (bs i) r m d a) (hG0 : FN ad w (bs i) r) {z : Int} (hz : 0 ≤ z ∧ z ≤ 5) : Sp E l yX6_walkPart cX6_walkPart 3 (some .int) 3 (0) (0) [.ref (ad 100), .ref (ad (120 + i)), iI z] w (fun r' w' => r' = some (iI (prV (bs i) r (ss i) z)) ∧ w' = w) := by
  refine sp_intro [some (.ref (ad 100)), some (.ref (ad (120 + i))), some (iI z)] rfl (Nat.le_of_ble_eq_true rfl) pn_X6 ?_
  intro X C hRm hl hnm hQ
  obtain ⟨hRf, hRl, hRc, hRs⟩ := hRm
  refine g_wf (fun hwf => ?_)
  have hC := hC0
  have hK : KO τ w w := KO.rf _ _
  have hF := hF0
  have hG := hG0
  have hs := (hC.W i (by omega)).2.2
  have hgb := (hC.W i (by omega)).2.1
  have hbl := hgb.1
  have hbh := hgb.2.1
  have hr09 := RT_le hV.1 hV.2.1
  refine g_iload_n C dX6_walkPart_0 rfl ?_
  rcases (show z = 0 ∨ z = 1 ∨ z = 2 ∨ z = 3 ∨ z = 4 ∨ z = 5 by omega) with q | q | q | q | q | q <;> subst q
  · refine g_tin (tgt := 36) C dX6_walkPart_1 (by omega) (by omega) rfl rfl ?_
    refine g_aload_n C dX6_walkPart_36 rfl ?_
    refine g_get (ci := 6) C rfl inTX4 0 (by decide) fl_RX6_68 rfl (hC.W i (by omega)).1 rfl dX6_walkPart_37 ?_
    exact g_ireturn C hQ dX6_walkPart_40 (Nat.le_refl _) (Nat.le_refl _) ⟨rfl, rfl⟩
  · refine g_tin (tgt := 41) C dX6_walkPart_1 (by omega) (by omega) rfl rfl ?_
    refine g_aload_n C dX6_walkPart_41 rfl ?_
    refine g_get (ci := 6) C rfl inTX4 1 (by decide) fl_RX6_72 rfl (hC.W i (by omega)).1 rfl dX6_walkPart_42 ?_
    exact g_ireturn C hQ dX6_walkPart_45 (Nat.le_refl _) (Nat.le_refl _) ⟨rfl, rfl⟩
  · refine g_tin (tgt := 46) C dX6_walkPart_1 (by omega) (by omega) rfl rfl ?_
    refine g_aload_n C dX6_walkPart_46 rfl ?_
    refine g_get (ci := 8) C rfl inTX6 3 (by decide) fl_RX6_30 rfl hC.o rfl dX6_walkPart_47 ?_
    refine g_get (ci := 3) C rfl inTX1 1 (by decide) fl_RX6_355 rfl hF.1 rfl dX6_walkPart_50 ?_
    exact g_ireturn C hQ dX6_walkPart_53 (Nat.le_refl _) (Nat.le_refl _) ⟨rfl, rfl⟩
  · refine g_tin (tgt := 54) C dX6_walkPart_1 (by omega) (by omega) rfl rfl ?_
    refine g_aload_n C dX6_walkPart_54 rfl ?_
    refine g_get (ci := 8) C rfl inTX6 3 (by decide) fl_RX6_30 rfl hC.o rfl dX6_walkPart_55 ?_
    refine g_aload_n C dX6_walkPart_58 rfl ?_
    refine g_get (ci := 6) C rfl inTX4 1 (by decide) fl_RX6_72 rfl (hC.W i (by omega)).1 rfl dX6_walkPart_59 ?_
    refine g_callV C (s_X1_partM _ hF (k := ss i) (by omega)) (ci := 3) rfl hF.1 rfl ml_RX6_184 im_yX1_partM se_RX1_yX1_partM in_RX1 co_yX1_partM hd_X1_partM rfl ⟨by omega, by omega⟩ rfl (Nat.le_of_ble_eq_true rfl) ⟨by omega, by omega⟩ dX6_walkPart_62 (fun v62 w62 hp62 => ?_)
    obtain ⟨⟨p62, rfl, hp62a, hp62b⟩, hw62⟩ := hp62
    subst w62
    exact g_ireturn C hQ dX6_walkPart_65 (Nat.le_refl _) (Nat.le_refl _) ⟨by
      have e0 : (ss i).toNat = p62 := by have := hp62b (by omega); omega
      have e1 := (hV.2.2 p62 (by omega)).1
      unfold prV
      rw [e1, ← e0]
      simp, rfl⟩
  · refine g_tin (tgt := 66) C dX6_walkPart_1 (by omega) (by omega) rfl rfl ?_
    refine g_aload_n C dX6_walkPart_66 rfl ?_
    refine g_get (ci := 8) C rfl inTX6 3 (by decide) fl_RX6_30 rfl hC.o rfl dX6_walkPart_67 ?_
    refine g_aload_n C dX6_walkPart_70 rfl ?_
    refine g_get (ci := 6) C rfl inTX4 1 (by decide) fl_RX6_72 rfl (hC.W i (by omega)).1 rfl dX6_walkPart_71 ?_
    refine g_callV C (s_X1_partD _ hF (k := ss i) (by omega)) (ci := 3) rfl hF.1 rfl ml_RX6_187 im_yX1_partD se_RX1_yX1_partD in_RX1 co_yX1_partD hd_X1_partD rfl ⟨by omega, by omega⟩ rfl (Nat.le_of_ble_eq_true rfl) ⟨by omega, by omega⟩ dX6_walkPart_74 (fun v74 w74 hp74 => ?_)
    obtain ⟨⟨p74, rfl, hp74a, hp74b⟩, hw74⟩ := hp74
    subst w74
    exact g_ireturn C hQ dX6_walkPart_77 (Nat.le_refl _) (Nat.le_refl _) ⟨by
      have e0 : (ss i).toNat = p74 := by have := hp74b (by omega); omega
      have e1 := (hV.2.2 p74 (by omega)).2.1
      unfold prV
      rw [e1, ← e0]
      simp, rfl⟩
  · refine g_tout (tgt := 78) C dX6_walkPart_1 (by omega) (by omega) rfl ?_
    refine g_aload_n C dX6_walkPart_78 rfl ?_
    refine g_get (ci := 8) C rfl inTX6 3 (by decide) fl_RX6_30 rfl hC.o rfl dX6_walkPart_79 ?_
    refine g_aload_n C dX6_walkPart_82 rfl ?_
    refine g_get (ci := 6) C rfl inTX4 1 (by decide) fl_RX6_72 rfl (hC.W i (by omega)).1 rfl dX6_walkPart_83 ?_
    refine g_callV C (s_X1_partA _ hF (k := ss i) (by omega)) (ci := 3) rfl hF.1 rfl ml_RX6_161 im_yX1_partA se_RX1_yX1_partA in_RX1 co_yX1_partA hd_X1_partA rfl ⟨by omega, by omega⟩ rfl (Nat.le_of_ble_eq_true rfl) ⟨by omega, by omega⟩ dX6_walkPart_86 (fun v86 w86 hp86 => ?_)
    obtain ⟨⟨p86, rfl, hp86a, hp86b⟩, hw86⟩ := hp86
    subst w86
    exact g_ireturn C hQ dX6_walkPart_89 (Nat.le_refl _) (Nat.le_refl _) ⟨by
      have e0 : (ss i).toNat = p86 := by have := hp86b (by omega); omega
      have e1 := (hV.2.2 p86 (by omega)).2.2
      unfold prV
      rw [e1, ← e0]
      simp, rfl⟩
set_option maxHeartbeats 4000000 in
set_option maxRecDepth 100000 in
theorem s_X6_walkNumber (l : Launch) {E : GE} {w : Wd} {τ ad : Nat → Nat} {bs ss : Nat → Int} {pb : Nat → PT} {P Q : Nat → Nat} {ct : Nat → Int} (hC0 : CS τ ad w bs ss pb P Q ct) {i : Nat} (hi : i < 3) {r : Int} {m d a : Nat → Int} (hF0 : FS ad w (bs i) r m d a) (hV : FV (bs i) r m d a) (hG0 : FN ad w (bs i) r) {z : Int} (hz : 0 ≤ z ∧ z ≤ 3) : Sp E l yX6_walkNumber cX6_walkNumber 3 (some (.object "Rootwalk$Whole")) 3 (0) (0) [.ref (ad 100), .ref (ad (120 + i)), iI z] w (fun r' w' => (∃ j, r' = some (.ref (wo ad j)) ∧ (16 ≤ j ∧ j < 70) ∧ NW ad w j (wnV (bs i) r (ss i).toNat z)) ∧ w' = w) := by
  refine sp_intro [some (.ref (ad 100)), some (.ref (ad (120 + i))), some (iI z)] rfl (Nat.le_of_ble_eq_true rfl) pn_X6 ?_
  intro X C hRm hl hnm hQ
  obtain ⟨hRf, hRl, hRc, hRs⟩ := hRm
  refine g_wf (fun hwf => ?_)
  have hC := hC0
  have hK : KO τ w w := KO.rf _ _
  have hF := hF0
  have hG := hG0
  have hs := (hC.W i (by omega)).2.2
  have hgb := (hC.W i (by omega)).2.1
  have hbl := hgb.1
  have hbh := hgb.2.1
  have hr09 := RT_le hV.1 hV.2.1
  refine g_iload_n C dX6_walkNumber_0 rfl ?_
  rcases (show z = 0 ∨ z = 1 ∨ z = 2 ∨ z = 3 by omega) with q | q | q | q <;> subst q
  · refine g_tin (tgt := 28) C dX6_walkNumber_1 (by omega) (by omega) rfl rfl ?_
    refine g_aload_n C dX6_walkNumber_28 rfl ?_
    refine g_get (ci := 8) C rfl inTX6 3 (by decide) fl_RX6_30 rfl hC.o rfl dX6_walkNumber_29 ?_
    refine g_aload_n C dX6_walkNumber_32 rfl ?_
    refine g_get (ci := 6) C rfl inTX4 1 (by decide) fl_RX6_72 rfl (hC.W i (by omega)).1 rfl dX6_walkNumber_33 ?_
    refine g_callV C (s_X1_top _ hF (k := ss i) (by omega)) (ci := 3) rfl hF.1 rfl ml_RX6_119 im_yX1_top se_RX1_yX1_top in_RX1 co_yX1_top hd_X1_top rfl ⟨by omega, by omega⟩ rfl (Nat.le_of_ble_eq_true rfl) ⟨by omega, by omega⟩ dX6_walkNumber_36 (fun v36 w36 hp36 => ?_)
    obtain ⟨⟨j36, rfl, hj36a, hj36b, hj36⟩, hw36⟩ := hp36
    subst w36
    have f36 := hG.top (k := ss i) (j := j36) (by omega) (by have := hj36 (by omega); omega)
    exact g_areturn C (Or.inl ⟨_, rfl⟩) hQ (Or.inr ⟨_, rfl⟩) dX6_walkNumber_39 (by omega) (by omega) ⟨⟨j36, rfl, by omega, f36⟩, rfl⟩
  · refine g_tin (tgt := 40) C dX6_walkNumber_1 (by omega) (by omega) rfl rfl ?_
    refine g_aload_n C dX6_walkNumber_40 rfl ?_
    refine g_get (ci := 8) C rfl inTX6 3 (by decide) fl_RX6_30 rfl hC.o rfl dX6_walkNumber_41 ?_
    refine g_aload_n C dX6_walkNumber_44 rfl ?_
    refine g_get (ci := 6) C rfl inTX4 1 (by decide) fl_RX6_72 rfl (hC.W i (by omega)).1 rfl dX6_walkNumber_45 ?_
    refine g_callV C (s_X1_bottom _ hF (k := ss i) (by omega)) (ci := 3) rfl hF.1 rfl ml_RX6_123 im_yX1_bottom se_RX1_yX1_bottom in_RX1 co_yX1_bottom hd_X1_bottom rfl ⟨by omega, by omega⟩ rfl (Nat.le_of_ble_eq_true rfl) ⟨by omega, by omega⟩ dX6_walkNumber_48 (fun v48 w48 hp48 => ?_)
    obtain ⟨⟨j48, rfl, hj48a, hj48b, hj48⟩, hw48⟩ := hp48
    subst w48
    have f48 := hG.bot (k := ss i) (j := j48) (by omega) (by have := hj48 (by omega); omega)
    exact g_areturn C (Or.inl ⟨_, rfl⟩) hQ (Or.inr ⟨_, rfl⟩) dX6_walkNumber_51 (by omega) (by omega) ⟨⟨j48, rfl, by omega, f48⟩, rfl⟩
  · refine g_tin (tgt := 52) C dX6_walkNumber_1 (by omega) (by omega) rfl rfl ?_
    refine g_aload_n C dX6_walkNumber_52 rfl ?_
    refine g_get (ci := 8) C rfl inTX6 3 (by decide) fl_RX6_30 rfl hC.o rfl dX6_walkNumber_53 ?_
    refine g_aload_n C dX6_walkNumber_56 rfl ?_
    refine g_get (ci := 6) C rfl inTX4 1 (by decide) fl_RX6_72 rfl (hC.W i (by omega)).1 rfl dX6_walkNumber_57 ?_
    refine g_iconst C dX6_walkNumber_60 ?_
    refine g_isub C dX6_walkNumber_61 ?_
    refine g_callV C (s_X1_top _ hF (k := ss i - 1) (by omega)) (ci := 3) rfl hF.1 rfl ml_RX6_119 im_yX1_top se_RX1_yX1_top in_RX1 co_yX1_top hd_X1_top rfl ⟨by omega, by omega⟩ rfl (Nat.le_of_ble_eq_true rfl) ⟨by omega, by omega⟩ dX6_walkNumber_62 (fun v62 w62 hp62 => ?_)
    obtain ⟨⟨j62, rfl, hj62a, hj62b, hj62⟩, hw62⟩ := hp62
    subst w62
    have f62 := hG.topB (k := ss i) (j := j62) (by omega) (by have := hj62 (by omega); omega)
    exact g_areturn C (Or.inl ⟨_, rfl⟩) hQ (Or.inr ⟨_, rfl⟩) dX6_walkNumber_65 (by omega) (by omega) ⟨⟨j62, rfl, by omega, f62⟩, rfl⟩
  · refine g_tout (tgt := 66) C dX6_walkNumber_1 (by omega) (by omega) rfl ?_
    refine g_aload_n C dX6_walkNumber_66 rfl ?_
    refine g_get (ci := 8) C rfl inTX6 3 (by decide) fl_RX6_30 rfl hC.o rfl dX6_walkNumber_67 ?_
    refine g_aload_n C dX6_walkNumber_70 rfl ?_
    refine g_get (ci := 6) C rfl inTX4 1 (by decide) fl_RX6_72 rfl (hC.W i (by omega)).1 rfl dX6_walkNumber_71 ?_
    refine g_iconst C dX6_walkNumber_74 ?_
    refine g_isub C dX6_walkNumber_75 ?_
    refine g_callV C (s_X1_bottom _ hF (k := ss i - 1) (by omega)) (ci := 3) rfl hF.1 rfl ml_RX6_123 im_yX1_bottom se_RX1_yX1_bottom in_RX1 co_yX1_bottom hd_X1_bottom rfl ⟨by omega, by omega⟩ rfl (Nat.le_of_ble_eq_true rfl) ⟨by omega, by omega⟩ dX6_walkNumber_76 (fun v76 w76 hp76 => ?_)
    obtain ⟨⟨j76, rfl, hj76a, hj76b, hj76⟩, hw76⟩ := hp76
    subst w76
    have f76 := hG.botB (k := ss i) (j := j76) (by omega) (by have := hj76 (by omega); omega)
    exact g_areturn C (Or.inl ⟨_, rfl⟩) hQ (Or.inr ⟨_, rfl⟩) dX6_walkNumber_79 (by omega) (by omega) ⟨⟨j76, rfl, by omega, f76⟩, rfl⟩
set_option maxHeartbeats 4000000 in
set_option maxRecDepth 100000 in
theorem s_X6_walkTest (l : Launch) {E : GE} {w : Wd} {τ ad : Nat → Nat} {bs ss : Nat → Int} {pb : Nat → PT} {P Q : Nat → Nat} {ct : Nat → Int} (hC0 : CS τ ad w bs ss pb P Q ct) {i : Nat} (hi : i < 3) {r : Int} {m d a : Nat → Int} (hF0 : FS ad w (bs i) r m d a) (hV : FV (bs i) r m d a) (hG0 : FN ad w (bs i) r) {z : Int} (hz : 0 ≤ z ∧ z ≤ 2) : Sp E l yX6_walkTest cX6_walkTest 5 (some .int) 4 (0) (0) [.ref (ad 100), .ref (ad (120 + i)), iI z] w (fun r' w' => r' = some (iI (tstV (bs i) r (ss i).toNat z)) ∧ FS ad w' (bs i) r m d a ∧ FN ad w' (bs i) r ∧ CS τ ad w' (bs) (ss) (pb) (P) (Q) (ct) ∧ KO τ w w') := by
  refine sp_intro [some (.ref (ad 100)), some (.ref (ad (120 + i))), some (iI z), none, none] rfl (Nat.le_of_ble_eq_true rfl) pn_X6 ?_
  intro X C hRm hl hnm hQ
  obtain ⟨hRf, hRl, hRc, hRs⟩ := hRm
  refine g_wf (fun hwf => ?_)
  have hC := hC0
  have hK : KO τ w w := KO.rf _ _
  have hF := hF0
  have hG := hG0
  have hs := (hC.W i (by omega)).2.2
  have hgb := (hC.W i (by omega)).2.1
  have hbl := hgb.1
  have hbh := hgb.2.1
  have hr09 := RT_le hV.1 hV.2.1
  have hw := wk_f hV.1 hV.2.1 (k := (ss i).toNat) (by omega)
  refine g_aload_n C dX6_walkTest_0 rfl ?_
  refine g_get (ci := 8) C rfl inTX6 3 (by decide) fl_RX6_30 rfl hC.o rfl dX6_walkTest_1 ?_
  refine g_aload_n C dX6_walkTest_4 rfl ?_
  refine g_get (ci := 6) C rfl inTX4 1 (by decide) fl_RX6_72 rfl (hC.W i (by omega)).1 rfl dX6_walkTest_5 ?_
  refine g_callV C (s_X1_top _ hF (k := ss i) (by omega)) (ci := 3) rfl hF.1 rfl ml_RX6_119 im_yX1_top se_RX1_yX1_top in_RX1 co_yX1_top hd_X1_top rfl ⟨by omega, by omega⟩ rfl (Nat.le_of_ble_eq_true rfl) ⟨by omega, by omega⟩ dX6_walkTest_8 (fun v8 w8 hp8 => ?_)
  obtain ⟨⟨j8, rfl, hj8a, hj8b, hj8⟩, hw8⟩ := hp8
  subst w8
  have f8 := hG.top (k := ss i) (j := j8) (by omega) (by have := hj8 (by omega); omega)
  refine g_astore_n C dX6_walkTest_11 (by decide) rfl ?_
  refine g_aload_n C dX6_walkTest_12 rfl ?_
  refine g_get (ci := 8) C rfl inTX6 3 (by decide) fl_RX6_30 rfl hC.o rfl dX6_walkTest_13 ?_
  refine g_aload_n C dX6_walkTest_16 rfl ?_
  refine g_get (ci := 6) C rfl inTX4 1 (by decide) fl_RX6_72 rfl (hC.W i (by omega)).1 rfl dX6_walkTest_17 ?_
  refine g_callV C (s_X1_bottom _ hF (k := ss i) (by omega)) (ci := 3) rfl hF.1 rfl ml_RX6_123 im_yX1_bottom se_RX1_yX1_bottom in_RX1 co_yX1_bottom hd_X1_bottom rfl ⟨by omega, by omega⟩ rfl (Nat.le_of_ble_eq_true rfl) ⟨by omega, by omega⟩ dX6_walkTest_20 (fun v20 w20 hp20 => ?_)
  obtain ⟨⟨j20, rfl, hj20a, hj20b, hj20⟩, hw20⟩ := hp20
  subst w20
  have f20 := hG.bot (k := ss i) (j := j20) (by omega) (by have := hj20 (by omega); omega)
  refine g_astore C dX6_walkTest_23 (by decide) rfl ?_
  refine g_iload_n C dX6_walkTest_25 rfl ?_
  rcases (show z = 0 ∨ z = 1 ∨ z = 2 by omega) with q | q | q <;> subst q
  · refine g_lookup (tgt := 52) (off := 26) C dX6_walkTest_26 (by omega) (by decide) (by decide) rfl ?_
    refine g_aload_n C dX6_walkTest_52 rfl ?_
    refine g_get (ci := 8) C rfl inTX6 4 (by decide) fl_RX6_37 rfl hC.o rfl dX6_walkTest_53 ?_
    refine g_aload_n C dX6_walkTest_56 rfl ?_
    refine g_aload C dX6_walkTest_57 rfl ?_
    refine g_callV C (s_X0_divisor _ hC.N hC.D (j := j8) (k := j20) (by omega) (by omega) f8 hw.1.1 f20 hw.2.1.1 hw.2.2.2.2.1 hw.2.2.2.2.2.1) (ci := 2) rfl hC.D rfl ml_RX6_358 im_yX0_divisor se_RX0_yX0_divisor in_RX0 co_yX0_divisor hd_X0_divisor rfl ⟨by omega, by omega⟩ rfl (Nat.le_of_ble_eq_true rfl) ⟨by omega, by omega⟩ dX6_walkTest_59 (fun v59 w59 hp59 => ?_)
    obtain ⟨g59, z59, rfl, hg59, f59, z59a, z59b, z59c, hN59, hk59⟩ := hp59
    have hz59 := wk_cop hV.1 hV.2.1 (k := (ss i).toNat) (by omega) z59a z59b z59c
    subst hz59
    replace hC := hC.kn hk59 hN59
    replace hK := hK.tr hk59.kc
    replace hF := hF.kn hk59 hN59
    replace hG := hG.kn hk59 hN59
    replace f8 := hk59.nw hN59 (by omega) f8
    replace f20 := hk59.nw hN59 (by omega) f20
    refine g_callV C (v_X5_lowBits _ f59 ) (ci := 7) rfl (hC.N.W (j := g59) (by omega)).o rfl ml_RX6_362 im_yX5_lowBits se_RX5_yX5_lowBits in_RX5 co_yX5_lowBits hd_X5_lowBits rfl ⟨by omega, by omega⟩ rfl (Nat.le_of_ble_eq_true rfl) ⟨by omega, by omega⟩ dX6_walkTest_62 (fun v62 w62 hp62 => ?_)
    obtain ⟨rfl, hw62⟩ := hp62
    subst w62
    refine g_l2i C dX6_walkTest_65 ?_
    exact g_ireturn C hQ dX6_walkTest_66 (Nat.le_refl _) (Nat.le_refl _) ⟨rfl, hF, hG, hC, hK⟩
  · refine g_lookup (tgt := 67) (off := 41) C dX6_walkTest_26 (by omega) (by decide) (by decide) rfl ?_
    refine g_aload_n C dX6_walkTest_67 rfl ?_
    refine g_get (ci := 8) C rfl inTX6 4 (by decide) fl_RX6_37 rfl hC.o rfl dX6_walkTest_68 ?_
    refine g_aload_n C dX6_walkTest_71 rfl ?_
    refine g_aload C dX6_walkTest_72 rfl ?_
    refine g_aload_n C dX6_walkTest_74 rfl ?_
    refine g_aload_n C dX6_walkTest_75 rfl ?_
    refine g_iconst C dX6_walkTest_76 ?_
    refine g_callV C (s_X6_walkNumber _ hC hi hF hV hG (z := 2) (by omega)) (ci := 8) rfl hC.o rfl ml_RX6_98 im_yX6_walkNumber se_RX6_yX6_walkNumber in_RX6 co_yX6_walkNumber hd_X6_walkNumber rfl ⟨by omega, by omega⟩ rfl (Nat.le_of_ble_eq_true rfl) ⟨by omega, by omega⟩ dX6_walkTest_77 (fun v77 w77 hp77 => ?_)
    obtain ⟨⟨j77, rfl, hj77, f77⟩, hw77⟩ := hp77
    subst w77
    refine g_aload_n C dX6_walkTest_80 rfl ?_
    refine g_aload_n C dX6_walkTest_81 rfl ?_
    refine g_iconst C dX6_walkTest_82 ?_
    refine g_callV C (s_X6_walkNumber _ hC hi hF hV hG (z := 3) (by omega)) (ci := 8) rfl hC.o rfl ml_RX6_98 im_yX6_walkNumber se_RX6_yX6_walkNumber in_RX6 co_yX6_walkNumber hd_X6_walkNumber rfl ⟨by omega, by omega⟩ rfl (Nat.le_of_ble_eq_true rfl) ⟨by omega, by omega⟩ dX6_walkTest_83 (fun v83 w83 hp83 => ?_)
    obtain ⟨⟨j83, rfl, hj83, f83⟩, hw83⟩ := hp83
    subst w83
    refine g_callV C (s_X0_cross _ hC.N hC.D (i := j8) (j := j20) (k := j77) (m := j83) (by omega) (by omega) (by omega) (by omega) f8 hw.1.1 f20 hw.2.1.1 f77 hw.1.2 f83 hw.2.1.2) (ci := 2) rfl hC.D rfl ml_RX6_366 im_yX0_cross se_RX0_yX0_cross in_RX0 co_yX0_cross hd_X0_cross rfl ⟨by omega, by omega⟩ rfl (Nat.le_of_ble_eq_true rfl) ⟨by omega, by omega⟩ dX6_walkTest_86 (fun v86 w86 hp86 => ?_)
    obtain ⟨rfl, f86, hN86, hk86⟩ := hp86
    replace hC := hC.kn hk86 hN86
    replace hK := hK.tr hk86.kc
    replace hF := hF.kn hk86 hN86
    replace hG := hG.kn hk86 hN86
    replace f8 := hk86.nw hN86 (by omega) f8
    replace f20 := hk86.nw hN86 (by omega) f20
    replace f77 := hk86.nw hN86 (by omega) f77
    replace f83 := hk86.nw hN86 (by omega) f83
    refine g_callV C (v_X5_lowBits _ f86 ) (ci := 7) rfl (hC.N.W (j := 0) (by omega)).o rfl ml_RX6_362 im_yX5_lowBits se_RX5_yX5_lowBits in_RX5 co_yX5_lowBits hd_X5_lowBits rfl ⟨by omega, by omega⟩ rfl (Nat.le_of_ble_eq_true rfl) ⟨by omega, by omega⟩ dX6_walkTest_89 (fun v89 w89 hp89 => ?_)
    obtain ⟨rfl, hw89⟩ := hp89
    subst w89
    refine g_l2i C dX6_walkTest_92 ?_
    exact g_ireturn C hQ dX6_walkTest_93 (Nat.le_refl _) (Nat.le_refl _) ⟨by rw [show wnV (bs i) r (ss i).toNat 3 = (pq (bs i) r 0 1 (ss i).toNat).2 from rfl, show wnV (bs i) r (ss i).toNat 2 = (pq (bs i) r 1 r (ss i).toNat).2 from rfl, hw.2.2.1]; rfl, hF, hG, hC, hK⟩
  · refine g_lookup (tgt := 94) (off := 68) C dX6_walkTest_26 (by omega) (by decide) (by decide) rfl ?_
    refine g_aload_n C dX6_walkTest_94 rfl ?_
    refine g_get (ci := 8) C rfl inTX6 4 (by decide) fl_RX6_37 rfl hC.o rfl dX6_walkTest_95 ?_
    refine g_aload_n C dX6_walkTest_98 rfl ?_
    refine g_get (ci := 6) C rfl inTX4 0 (by decide) fl_RX6_68 rfl (hC.W i (by omega)).1 rfl dX6_walkTest_99 ?_
    refine g_aload_n C dX6_walkTest_102 rfl ?_
    refine g_aload C dX6_walkTest_103 rfl ?_
    refine g_callV C (s_X0_norm _ hC.N hC.D (b := bs i) (by omega) (j := j8) (k := j20) (by omega) (by omega) f8 hw.1.1 f20 hw.2.1.1) (ci := 2) rfl hC.D rfl ml_RX6_234 im_yX0_norm se_RX0_yX0_norm in_RX0 co_yX0_norm hd_X0_norm rfl ⟨by omega, by omega⟩ rfl (Nat.le_of_ble_eq_true rfl) ⟨by omega, by omega⟩ dX6_walkTest_105 (fun v105 w105 hp105 => ?_)
    obtain ⟨rfl, f105, hN105, hk105⟩ := hp105
    replace hC := hC.kn hk105 hN105
    replace hK := hK.tr hk105.kc
    replace hF := hF.kn hk105 hN105
    replace hG := hG.kn hk105 hN105
    replace f8 := hk105.nw hN105 (by omega) f8
    replace f20 := hk105.nw hN105 (by omega) f20
    refine g_callV C (v_X5_lowBits _ f105 ) (ci := 7) rfl (hC.N.W (j := 1) (by omega)).o rfl ml_RX6_362 im_yX5_lowBits se_RX5_yX5_lowBits in_RX5 co_yX5_lowBits hd_X5_lowBits rfl ⟨by omega, by omega⟩ rfl (Nat.le_of_ble_eq_true rfl) ⟨by omega, by omega⟩ dX6_walkTest_108 (fun v108 w108 hp108 => ?_)
    obtain ⟨rfl, hw108⟩ := hp108
    subst w108
    refine g_l2i C dX6_walkTest_111 ?_
    exact g_ireturn C hQ dX6_walkTest_112 (Nat.le_refl _) (Nat.le_refl _) ⟨by rw [hw.2.2.2.1]; rfl, hF, hG, hC, hK⟩
set_option maxHeartbeats 4000000 in
set_option maxRecDepth 100000 in
theorem s_X6_walkDecimals (l : Launch) {E : GE} {w : Wd} {τ ad : Nat → Nat} {bs ss : Nat → Int} {pb : Nat → PT} {P Q : Nat → Nat} {ct : Nat → Int} (hC0 : CS τ ad w bs ss pb P Q ct) {i : Nat} (hi : i < 3) {r : Int} {m d a : Nat → Int} (hF0 : FS ad w (bs i) r m d a) (hV : FV (bs i) r m d a) (hG0 : FN ad w (bs i) r) {z : Nat} (hz : z ≤ 16) : Sp E l yX6_walkDecimals cX6_walkDecimals 3 (some .long) 4 (0) (0) [.ref (ad 100), .ref (ad (120 + i)), iI (z : Int)] w (fun r' w' => r' = some (jJ ((pq (bs i) r 1 r (ss i).toNat).1 * 10 ^ z / (pq (bs i) r 0 1 (ss i).toNat).1)) ∧ CS τ ad w' (bs) (ss) (pb) (P) (Q) (ct) ∧ KO τ w w') := by
  refine sp_intro [some (.ref (ad 100)), some (.ref (ad (120 + i))), some (iI (z : Int))] rfl (Nat.le_of_ble_eq_true rfl) pn_X6 ?_
  intro X C hRm hl hnm hQ
  obtain ⟨hRf, hRl, hRc, hRs⟩ := hRm
  refine g_wf (fun hwf => ?_)
  have hC := hC0
  have hK : KO τ w w := KO.rf _ _
  have hF := hF0
  have hG := hG0
  have hs := (hC.W i (by omega)).2.2
  have hgb := (hC.W i (by omega)).2.1
  have hbl := hgb.1
  have hbh := hgb.2.1
  have hr09 := RT_le hV.1 hV.2.1
  have hw := wk_f hV.1 hV.2.1 (k := (ss i).toNat) (by omega)
  refine g_aload_n C dX6_walkDecimals_0 rfl ?_
  refine g_get (ci := 8) C rfl inTX6 4 (by decide) fl_RX6_37 rfl hC.o rfl dX6_walkDecimals_1 ?_
  refine g_aload_n C dX6_walkDecimals_4 rfl ?_
  refine g_get (ci := 8) C rfl inTX6 3 (by decide) fl_RX6_30 rfl hC.o rfl dX6_walkDecimals_5 ?_
  refine g_aload_n C dX6_walkDecimals_8 rfl ?_
  refine g_get (ci := 6) C rfl inTX4 1 (by decide) fl_RX6_72 rfl (hC.W i (by omega)).1 rfl dX6_walkDecimals_9 ?_
  refine g_callV C (s_X1_top _ hF (k := ss i) (by omega)) (ci := 3) rfl hF.1 rfl ml_RX6_119 im_yX1_top se_RX1_yX1_top in_RX1 co_yX1_top hd_X1_top rfl ⟨by omega, by omega⟩ rfl (Nat.le_of_ble_eq_true rfl) ⟨by omega, by omega⟩ dX6_walkDecimals_12 (fun v12 w12 hp12 => ?_)
  obtain ⟨⟨j12, rfl, hj12a, hj12b, hj12⟩, hw12⟩ := hp12
  subst w12
  have f12 := hG.top (k := ss i) (j := j12) (by omega) (by have := hj12 (by omega); omega)
  refine g_aload_n C dX6_walkDecimals_15 rfl ?_
  refine g_get (ci := 8) C rfl inTX6 3 (by decide) fl_RX6_30 rfl hC.o rfl dX6_walkDecimals_16 ?_
  refine g_aload_n C dX6_walkDecimals_19 rfl ?_
  refine g_get (ci := 6) C rfl inTX4 1 (by decide) fl_RX6_72 rfl (hC.W i (by omega)).1 rfl dX6_walkDecimals_20 ?_
  refine g_callV C (s_X1_bottom _ hF (k := ss i) (by omega)) (ci := 3) rfl hF.1 rfl ml_RX6_123 im_yX1_bottom se_RX1_yX1_bottom in_RX1 co_yX1_bottom hd_X1_bottom rfl ⟨by omega, by omega⟩ rfl (Nat.le_of_ble_eq_true rfl) ⟨by omega, by omega⟩ dX6_walkDecimals_23 (fun v23 w23 hp23 => ?_)
  obtain ⟨⟨j23, rfl, hj23a, hj23b, hj23⟩, hw23⟩ := hp23
  subst w23
  have f23 := hG.bot (k := ss i) (j := j23) (by omega) (by have := hj23 (by omega); omega)
  refine g_iload_n C dX6_walkDecimals_26 rfl ?_
  refine g_callV C (s_X0_quotient _ hC.N hC.D (p := z) hz (j := j12) (k := j23) (by omega) (by omega) f12 hw.1.1 f23 (Int.le_of_lt hw.2.2.2.2.1) (Int.le_of_lt hw.2.2.2.2.2.1)) (ci := 2) rfl hC.D rfl ml_RX6_370 im_yX0_quotient se_RX0_yX0_quotient in_RX0 co_yX0_quotient hd_X0_quotient rfl ⟨by omega, by omega⟩ rfl (Nat.le_of_ble_eq_true rfl) ⟨by omega, by omega⟩ dX6_walkDecimals_27 (fun v27 w27 hp27 => ?_)
  obtain ⟨rfl, hN27, hk27⟩ := hp27
  replace hC := hC.kn hk27 hN27
  replace hK := hK.tr hk27.kc
  replace hF := hF.kn hk27 hN27
  replace hG := hG.kn hk27 hN27
  exact g_lreturn C hQ dX6_walkDecimals_30 (Nat.le_refl _) (Nat.le_refl _) ⟨rfl, hC, hK⟩
theorem bits120 {v : Int} (hv : aB v < 2 ^ 120) (z : Int) : (if z = 0 then hiB (aB v) 504 + 1 else if z = 1 then onB (aB v) 504 else loB (aB v) 504) = bitV v z := by
  unfold bitV
  rw [hiB_ext (aB_0 v) hv (q := 504) (by omega), onB_ext (aB_0 v) hv (q := 504) (by omega), loB_ext (aB_0 v) hv (q := 504) (by omega)]
theorem pq_120 {b r x y : Int} (hb : GB b) (hr : RT b r) (h0 : 0 ≤ x ∧ x ≤ 1) (h1 : 0 ≤ y ∧ y ≤ 9) {k : Nat} (hk : k ≤ 26) : aB (pq b r x y k).2 < 2 ^ 120 := by
  have := row_b hb hr h0 h1 hk
  have e : (2 : Int) ^ 120 = 1329227995784915872903807060280344576 := by decide +kernel
  rw [aB_p this.1, e]
  omega
theorem lg_120 {v : Int} (h : ¬ LGN ≤ aB v) : aB v < 2 ^ 120 := by
  have e : (2 : Int) ^ 120 = 1329227995784915872903807060280344576 := by decide +kernel
  have e2 : LGN = 1208925819614629174706176 := rfl
  rw [e]
  omega
set_option maxHeartbeats 4000000 in
set_option maxRecDepth 100000 in
theorem s_X6_countBits (l : Launch) {E : GE} {w : Wd} {τ ad : Nat → Nat} {bs ss : Nat → Int} {pb : Nat → PT} {P Q : Nat → Nat} {ct : Nat → Int} (hC0 : CS τ ad w bs ss pb P Q ct) {j : Nat} (hj : j < 70) {v : Int} (hv : NW ad w j v) (hs : aB v < 2 ^ 120) {z : Int} (hz : 0 ≤ z ∧ z ≤ 2) : Sp E l yX6_countBits cX6_countBits 2 (some .int) 2 (0) (0) [.ref (wo ad j), iI z] w (fun r' w' => r' = some (iI (bitV v z)) ∧ w' = w) := by
  refine sp_intro [some (.ref (wo ad j)), some (iI z)] rfl (Nat.le_of_ble_eq_true rfl) pn_X6 ?_
  intro X C hRm hl hnm hQ
  obtain ⟨hRf, hRl, hRc, hRs⟩ := hRm
  refine g_wf (fun hwf => ?_)
  have hC := hC0
  have hK : KO τ w w := KO.rf _ _
  refine g_iload_n C dX6_countBits_0 rfl ?_
  rcases (show z = 0 ∨ z = 1 ∨ z = 2 by omega) with q | q | q <;> subst q
  · refine g_lookup (tgt := 28) (off := 27) C dX6_countBits_1 (by omega) (by decide) (by decide) rfl ?_
    refine g_aload_n C dX6_countBits_28 rfl ?_
    refine g_callV C (u_X5_bits _ hv ) (ci := 7) rfl (hC.N.W (j := j) (by omega)).o rfl ml_RX6_374 im_yX5_bits se_RX5_yX5_bits in_RX5 co_yX5_bits hd_X5_bits rfl ⟨by omega, by omega⟩ rfl (Nat.le_of_ble_eq_true rfl) ⟨by omega, by omega⟩ dX6_countBits_29 (fun v29 w29 hp29 => ?_)
    obtain ⟨rfl, hw29⟩ := hp29
    subst w29
    exact g_ireturn C hQ dX6_countBits_32 (Nat.le_refl _) (Nat.le_refl _) ⟨by rw [← bits120 hs, if_pos rfl], rfl⟩
  · refine g_lookup (tgt := 33) (off := 32) C dX6_countBits_1 (by omega) (by decide) (by decide) rfl ?_
    refine g_aload_n C dX6_countBits_33 rfl ?_
    refine g_callV C (u_X5_ones _ hv ) (ci := 7) rfl (hC.N.W (j := j) (by omega)).o rfl ml_RX6_377 im_yX5_ones se_RX5_yX5_ones in_RX5 co_yX5_ones hd_X5_ones rfl ⟨by omega, by omega⟩ rfl (Nat.le_of_ble_eq_true rfl) ⟨by omega, by omega⟩ dX6_countBits_34 (fun v34 w34 hp34 => ?_)
    obtain ⟨rfl, hw34⟩ := hp34
    subst w34
    exact g_ireturn C hQ dX6_countBits_37 (Nat.le_refl _) (Nat.le_refl _) ⟨by rw [← bits120 hs, if_neg (by decide), if_pos rfl], rfl⟩
  · refine g_lookup (tgt := 38) (off := 37) C dX6_countBits_1 (by omega) (by decide) (by decide) rfl ?_
    refine g_aload_n C dX6_countBits_38 rfl ?_
    refine g_callV C (u_X5_zerosBehind _ hv ) (ci := 7) rfl (hC.N.W (j := j) (by omega)).o rfl ml_RX6_380 im_yX5_zerosBehind se_RX5_yX5_zerosBehind in_RX5 co_yX5_zerosBehind hd_X5_zerosBehind rfl ⟨by omega, by omega⟩ rfl (Nat.le_of_ble_eq_true rfl) ⟨by omega, by omega⟩ dX6_countBits_39 (fun v39 w39 hp39 => ?_)
    obtain ⟨rfl, hw39⟩ := hp39
    subst w39
    exact g_ireturn C hQ dX6_countBits_42 (Nat.le_refl _) (Nat.le_refl _) ⟨by rw [← bits120 hs, if_neg (by decide), if_neg (by decide)], rfl⟩
