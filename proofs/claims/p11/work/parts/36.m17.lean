theorem Ex.setnew {w u : Wd} (h : Ex w u) (hw : wF w) {a : Nat} (ha : w.1 ≤ a) (e : WdE) : Ex w (wset u a e) := ⟨h.1, fun b x hb => by rw [wset_n (by have := hw b x hb; omega)]; exact h.2 b x hb⟩
theorem RowAt.row {w : Wd} {q c : Nat} {z : Int} (h : RowAt w q z c) : ∃ n f, w.2 q = some (true, eI n f) ∧ BN f n z ∧ n ≤ c := h
set_option maxHeartbeats 4000000 in
set_option maxRecDepth 100000 in
theorem c_X8_product (l : Launch) {E : GE} {w : Wd} {b zx zy zu zv : Int} {x y u v c1 : Nat} (hb : 0 ≤ b ∧ b ≤ 999) (rx : RowAt w x zx c1) (ry : RowAt w y zy c1) (ru : RowAt w u zu 4) (rv : RowAt w v zv 4) (hc : 4 ≤ c1 ∧ c1 ≤ 150) : Sp E l yX8_product cX8_product 5 (some (.array (.array .int))) 3 (17) (14 * c1 + 86) [iI b, .ref x, .ref y, .ref u, .ref v] w (fun r w' => ∃ (q : Nat) (R : Nat → Option Nat) (a0 a1 : Nat), r = some (.ref q) ∧ w'.2 q = some (true, eR 2 2 R) ∧ R 0 = some a0 ∧ R 1 = some a1 ∧ RowAt w' a0 (zx * zu + b * (zy * zv)) (c1 + 9) ∧ RowAt w' a1 (zx * zv + zy * zu) (c1 + 9) ∧ w.1 ≤ a0 ∧ w.1 ≤ a1 ∧ Ex w w') := by
  refine sp_intro [some (iI b), some (.ref x), some (.ref y), some (.ref u), some (.ref v)] rfl (Nat.le_of_ble_eq_true rfl) pn_X8 ?_
  intro X C hRm hl hnm hQ
  obtain ⟨hRf, hRl, hRc, hRs⟩ := hRm
  refine g_wf (fun hwf => ?_)
  obtain ⟨n1, f1, e1, b1, d1⟩ := id rx
  obtain ⟨n2, f2, e2, b2, d2⟩ := id ry
  obtain ⟨n3, f3, e3, b3, d3⟩ := id ru
  obtain ⟨n4, f4, e4, b4, d4⟩ := id rv
  have x0 := Ex.push hwf (true, eR 2 2 (fun _ => none))
  have hr0 : (wpush w (true, eR 2 2 (fun _ => none))).2 w.1 = some (true, eR 2 2 (fun _ => none)) := wpush_s
  have z0 : (wpush w (true, eR 2 2 (fun _ => none))).1 = w.1 + 1 := rfl
  refine g_iconst C dX8_product_0 ?_
  refine g_anewI C kl_RX8_19 (N := 2) rfl (by omega) (by omega) dX8_product_1 ?_
  refine g_dup C dX8_product_4 rfl ?_
  refine g_iconst C dX8_product_5 ?_
  refine g_aload_n C dX8_product_6 rfl ?_
  refine g_aload_n C dX8_product_7 rfl ?_
  refine g_callS C (c_X8_times _ (c := c1 + 4) (x0.2 _ _ e1) (x0.2 _ _ e3) b1 b3 (by omega) (by omega)) ml_RX8_124 sm_yX8_times in_RX8 co_yX8_times hd_X8_times rfl ⟨by omega, by omega⟩ rfl (Nat.le_of_ble_eq_true rfl) ⟨by omega, by omega⟩ dX8_product_8 (fun v8 w8 hp8 => ?_)
  obtain ⟨q8, m8, k8, rfl, h8, hb8, hm8, hx8, hq8⟩ := hp8
  have x8 := x0.tr hx8
  have g8 := hx8.1
  have l8 : w.1 + 1 ≤ q8 := by rcases hq8 with q | q; omega; simp at q
  refine g_iload_n C dX8_product_11 rfl ?_
  refine g_i2l C dX8_product_12 (by omega) ?_
  refine g_callS C (c_X8_of _ (v := b) (by omega)) ml_RX8_20 sm_yX8_of in_RX8 co_yX8_of hd_X8_of rfl ⟨by omega, by omega⟩ rfl (Nat.le_of_ble_eq_true rfl) ⟨by omega, by omega⟩ dX8_product_13 (fun v13 w13 hp13 => ?_)
  obtain ⟨m13, k13, rfl, h13, hb13, hm13, s13, hx13⟩ := hp13
  have x13 := x8.tr hx13
  have g13 := hx13.1
  refine g_aload_n C dX8_product_16 rfl ?_
  refine g_aload C dX8_product_17 rfl ?_
  refine g_callS C (c_X8_times _ (c := c1 + 4) (x13.2 _ _ e2) (x13.2 _ _ e4) b2 b4 (by omega) (by omega)) ml_RX8_124 sm_yX8_times in_RX8 co_yX8_times hd_X8_times rfl ⟨by omega, by omega⟩ rfl (Nat.le_of_ble_eq_true rfl) ⟨by omega, by omega⟩ dX8_product_19 (fun v19 w19 hp19 => ?_)
  obtain ⟨q19, m19, k19, rfl, h19, hb19, hm19, hx19, hq19⟩ := hp19
  have x19 := x13.tr hx19
  have g19 := hx19.1
  have l19 : w.1 + 1 ≤ q19 := by rcases hq19 with q | q; omega; simp at q
  refine g_callS C (c_X8_times _ (c := c1 + 8) (hx19.2 _ _ h13) h19 hb13 hb19 (by omega) (by omega)) ml_RX8_124 sm_yX8_times in_RX8 co_yX8_times hd_X8_times rfl ⟨by omega, by omega⟩ rfl (Nat.le_of_ble_eq_true rfl) ⟨by omega, by omega⟩ dX8_product_22 (fun v22 w22 hp22 => ?_)
  obtain ⟨q22, m22, k22, rfl, h22, hb22, hm22, hx22, hq22⟩ := hp22
  have x22 := x19.tr hx22
  have g22 := hx22.1
  have l22 : w.1 + 1 ≤ q22 := by rcases hq22 with q | q; omega; simp at q
  refine g_callS C (c_X8_plus _ (c := c1 + 8) (hx22.2 _ _ (hx19.2 _ _ (hx13.2 _ _ h8))) h22 hb8 hb22 (by omega) (by omega) (by omega)) ml_RX8_81 sm_yX8_plus in_RX8 co_yX8_plus hd_X8_plus rfl ⟨by omega, by omega⟩ rfl (Nat.le_of_ble_eq_true rfl) ⟨by omega, by omega⟩ dX8_product_25 (fun v25 w25 hp25 => ?_)
  obtain ⟨q25, m25, k25, rfl, h25, hb25, hm25, hx25, hq25⟩ := hp25
  have x25 := x22.tr hx25
  have g25 := hx25.1
  have l25 : w.1 + 1 ≤ q25 := by
    rcases hq25 with q | q
    · omega
    · simp only [List.mem_cons, List.not_mem_nil, or_false] at q
      rcases q with q | q <;> omega
  have r25 := hx25.2 _ _ (hx22.2 _ _ (hx19.2 _ _ (hx13.2 _ _ (hx8.2 _ _ hr0))))
  refine g_aastoreI C 0 r25 h25 rfl (by omega) dX8_product_28 ?_
  have y28 : Ex w (wset w25 w.1 (true, eR 2 2 (rup (fun _ => none) 0 (some q25)))) := x25.setnew hwf (Nat.le_refl _) _
  have s28 : (wset w25 w.1 (true, eR 2 2 (rup (fun _ => none) 0 (some q25)))).2 w.1 = some (true, eR 2 2 (rup (fun _ => none) 0 (some q25))) := wset_s
  have a28 : RowAt (wset w25 w.1 (true, eR 2 2 (rup (fun _ => none) 0 (some q25)))) q25 (zx * zu + b * (zy * zv)) (c1 + 9) := (RowAt.of h25 hb25 hm25).keep (wset_n (by omega))
  have z28 : (wset w25 w.1 (true, eR 2 2 (rup (fun _ => none) 0 (some q25)))).1 = w25.1 := rfl
  generalize wset w25 w.1 (true, eR 2 2 (rup (fun _ => none) 0 (some q25))) = u0 at y28 s28 a28 z28 ⊢
  refine g_dup C dX8_product_29 rfl ?_
  refine g_iconst C dX8_product_30 ?_
  refine g_aload_n C dX8_product_31 rfl ?_
  refine g_aload C dX8_product_32 rfl ?_
  refine g_callS C (c_X8_times _ (c := c1 + 4) (y28.2 _ _ e1) (y28.2 _ _ e4) b1 b4 (by omega) (by omega)) ml_RX8_124 sm_yX8_times in_RX8 co_yX8_times hd_X8_times rfl ⟨by omega, by omega⟩ rfl (Nat.le_of_ble_eq_true rfl) ⟨by omega, by omega⟩ dX8_product_34 (fun v34 w34 hp34 => ?_)
  obtain ⟨q34, m34, k34, rfl, h34, hb34, hm34, hx34, hq34⟩ := hp34
  have x34 := y28.tr hx34
  have g34 := hx34.1
  have l34 : w.1 + 1 ≤ q34 := by rcases hq34 with q | q; omega; simp at q
  refine g_aload_n C dX8_product_37 rfl ?_
  refine g_aload_n C dX8_product_38 rfl ?_
  refine g_callS C (c_X8_times _ (c := c1 + 4) (x34.2 _ _ e2) (x34.2 _ _ e3) b2 b3 (by omega) (by omega)) ml_RX8_124 sm_yX8_times in_RX8 co_yX8_times hd_X8_times rfl ⟨by omega, by omega⟩ rfl (Nat.le_of_ble_eq_true rfl) ⟨by omega, by omega⟩ dX8_product_39 (fun v39 w39 hp39 => ?_)
  obtain ⟨q39, m39, k39, rfl, h39, hb39, hm39, hx39, hq39⟩ := hp39
  have x39 := x34.tr hx39
  have g39 := hx39.1
  have l39 : w.1 + 1 ≤ q39 := by rcases hq39 with q | q; omega; simp at q
  refine g_callS C (c_X8_plus _ (c := c1 + 4) (hx39.2 _ _ h34) h39 hb34 hb39 (by omega) (by omega) (by omega)) ml_RX8_81 sm_yX8_plus in_RX8 co_yX8_plus hd_X8_plus rfl ⟨by omega, by omega⟩ rfl (Nat.le_of_ble_eq_true rfl) ⟨by omega, by omega⟩ dX8_product_42 (fun v42 w42 hp42 => ?_)
  obtain ⟨q42, m42, k42, rfl, h42, hb42, hm42, hx42, hq42⟩ := hp42
  have x42 := x39.tr hx42
  have g42 := hx42.1
  have l42 : w.1 + 1 ≤ q42 := by
    rcases hq42 with q | q
    · omega
    · simp only [List.mem_cons, List.not_mem_nil, or_false] at q
      rcases q with q | q <;> omega
  have x342 := hx34.tr (hx39.tr hx42)
  refine g_aastoreI C 1 (x342.2 _ _ s28) h42 rfl (by omega) dX8_product_45 ?_
  exact g_areturn C (Or.inr ⟨_, rfl⟩) hQ (Or.inr ⟨_, rfl⟩) dX8_product_46 (by omega) (by omega) ⟨w.1, _, q25, q42, rfl, wset_s, by rw [rup_n (by omega), rup_s], rup_s, (a28.ex x342).keep (wset_n (by omega)), (RowAt.of h42 hb42 (by omega)).keep (wset_n (by omega)), by omega, by omega, x42.setnew hwf (Nat.le_refl _) _⟩
