/-- a digit of the EXACT root at a place behind the first -/
def rpD (b : Int) (j : Nat) (x : Int) : Prop := ∃ S S' : Int, RT (b * 100 ^ j) S ∧ (j = 0 ∧ S' = 0 ∨ ∃ i, j = i + 1 ∧ RT (b * 100 ^ i) S') ∧ x = S - 10 * S'
theorem rpD_uniq {b x y : Int} {j : Nat} (h : rpD b j x) (g : rpD b j y) : x = y := by
  obtain ⟨S, S', h1, h2, rfl⟩ := h
  obtain ⟨T, T', g1, g2, rfl⟩ := g
  have e1 := RT_uniq h1 g1
  have e2 : S' = T' := by
    rcases h2 with ⟨a, c⟩ | ⟨i, a, c⟩ <;> rcases g2 with ⟨a', c'⟩ | ⟨i', a', c'⟩
    · omega
    · omega
    · omega
    · have : i = i' := by omega
      subst this
      exact RT_uniq c c'
  rw [e1, e2]
theorem sq_lt_of {S T : Int} (hT : 0 ≤ T) (h : S * S < T * T) : S < T := by
  rcases Int.lt_or_le S T with q | q
  · exact q
  · have := Int.mul_le_mul q q hT (Int.le_trans hT q)
    omega
theorem RowAt.wset {w : Wd} {a b cap : Nat} {z : Int} (h : RowAt w a z cap) (hb : a ≠ b) (e : WdE) : RowAt (wset w b e) a z cap := by
  obtain ⟨n, f, h1, h2, h3⟩ := h
  exact ⟨n, f, by rw [wset_n hb]; exact h1, h2, h3⟩
theorem cap5 {f : Nat → Int} {n : Nat} {z : Int} (h : BN f n z) (h0 : 0 ≤ z) (h1 : z ≤ 17684534180768657011955825953294810) : n ≤ 5 := by
  have := h.cap (k := 4) (by rw [show B30 ^ 4 = 1329227995784915872903807060280344576 by decide +kernel]; omega)
  omega
set_option maxHeartbeats 4000000 in
set_option maxRecDepth 100000 in
theorem c_X8_places (l : Launch) {E : GE} {w : Wd} {τ : Nat → Nat} {m : Nat} {A : MA} {th : Int} {ba st pb le ri : Nat → Int} {sp : Nat → Nat → Int} {ct : Nat → Int} (hM : MSx τ w m A th ba st pb le ri sp ct) {i : Nat} {r : Int} (hi : i < 3) (hb : GB (ba i)) (hr : RT (ba i) r) (hs : 0 ≤ st i ∧ st i ≤ 24) : Sp E l yX8_places cX8_places 6 (some (.array .int)) 3 (419) (2207) [.ref m, iI (i : Int)] w (fun r1 w' => ∃ (q : Nat) (f : Nat → Int), r1 = some (.ref q) ∧ w'.2 q = some (true, eI 17 f) ∧ (∀ j, j < 17 → f j = lfD (pq (ba i) r 1 r (st i).toNat).1 (pq (ba i) r 0 1 (st i).toNat).1 j / (pq (ba i) r 0 1 (st i).toNat).1) ∧ (∀ j, j < 17 → 0 ≤ f j ∧ f j ≤ 10) ∧ Ex w w') := by
  refine sp_intro [some (.ref m), some (iI (i : Int)), none, none, none, none] rfl (Nat.le_of_ble_eq_true rfl) pn_X8 ?_
  intro X C hRm hl hnm hQ
  obtain ⟨hRf, hRl, hRc, hRs⟩ := hRm
  refine g_wf (fun hwf => ?_)
  obtain ⟨wk1, wk2, wk3, wk4, wk5⟩ := wk_good hb hr (k := (st i).toNat) (by omega)
  have hr9 := RT_le hb hr
  obtain ⟨-, hPc⟩ := pq_cap (x0 := 1) (x1 := r) hb hr (by omega) (by omega) (k := (st i).toNat) (by omega)
  obtain ⟨-, hQc⟩ := pq_cap (x0 := 0) (x1 := 1) hb hr (by omega) (by omega) (k := (st i).toNat) (by omega)
  refine g_aload_n C dX8_places_0 rfl ?_
  refine g_iload_n C dX8_places_1 rfl ?_
  refine g_callV C (c_X8_at _ hM (i := i) (r := r) hi hb hr hs) (ci := 10) rfl hM.o rfl ml_RX8_167 im_yX8_at se_RX8_yX8_at in_RX8 co_yX8_at hd_X8_at rfl ⟨by omega, by omega⟩ rfl (Nat.le_of_ble_eq_true rfl) ⟨by omega, by omega⟩ dX8_places_2 (fun v2 w2 hp2 => ?_)
  obtain ⟨q, rfl, hR, x1, hq⟩ := hp2
  obtain ⟨R, a0, a1, a2, a3, hR0, k0, k1, k2, k3, l0, l1, l2, l3, lo0, lo1, lo2, lo3⟩ := id hR
  generalize hP : (pq (ba i) r 1 r (st i).toNat).1 = P at *
  generalize hQ : (pq (ba i) r 0 1 (st i).toNat).1 = Q at *
  have hrm := lfD_r (P := P) (Q := Q) (by omega) wk5 wk4
  obtain ⟨nQ, fQ, eQ, bQ, dQ⟩ := id l1
  refine g_wf (fun hwf2 => ?_)
  refine g_astore_n C dX8_places_5 (by decide) rfl ?_
  refine g_aload_n C dX8_places_6 rfl ?_
  refine g_iconst C dX8_places_7 ?_
  refine g_aaloadN (0) C rfl rfl hR0 (by omega) (by omega) k0 dX8_places_8 ?_
  refine g_astore_n C dX8_places_9 (by decide) rfl ?_
  refine g_bipush C dX8_places_10 (by decide) ?_
  refine g_newI C gw_arrayClass_int (N := 17) rfl (by omega) (by omega) dX8_places_12 ?_
  refine g_astore C dX8_places_14 (by decide) rfl ?_
  refine g_iconst C dX8_places_16 ?_
  refine g_istore C dX8_places_17 (by decide) rfl ?_
  refine g_loop (σ := Wd × Nat × Nat × (Nat → Int) × Int) (fun s => s.2.1 ≤ 17 ∧ Ex w2 s.1 ∧ w2.1 < s.1.1 ∧ s.1.2 w2.1 = some (true, eI 17 s.2.2.2.1) ∧ RowAt s.1 s.2.2.1 s.2.2.2.2 5 ∧ s.2.2.1 ≠ w2.1 ∧ (s.2.1 = 0 ∧ s.2.2.2.2 = P ∨ ∃ j, s.2.1 = j + 1 ∧ s.2.2.2.2 = lfD P Q j % Q) ∧ (∀ i, i < s.2.1 → s.2.2.2.1 i = lfD P Q i / Q) ∧ (∀ i, s.2.1 ≤ i → s.2.2.2.1 i = 0))
    (fun s => G E X 6 19 [some (.ref m), some (iI (i : Int)), some (.ref q), some (.ref s.2.2.1), some (.ref w2.1), some (iI (s.2.1 : Int))] [] s.1 (11 + 24 * s.2.1) (65 + 126 * s.2.1)) (fun s => 17 - s.2.1) ?_ (wpush w2 (true, eI 17 (fun _ => 0)), 0, a0, fun _ => 0, P)
    ⟨by dsimp only; omega, Ex.push hwf2 _, Nat.lt_succ_self _, wpush_s, l0.ex (Ex.push hwf2 _), (by obtain ⟨n, f, e, -⟩ := l0; exact Nat.ne_of_lt (hwf2 _ _ e)), Or.inl ⟨rfl, rfl⟩, fun i hi => absurd hi (Nat.not_lt_zero i), fun i _ => rfl⟩
  rintro ⟨u, j, a, f, z⟩ hs' ih
  obtain ⟨hj, xu, hgt, hf, ra, hne, hz, hlo, hhi⟩ := hs'
  dsimp only at hj xu hgt hf ra hne hz hlo hhi ⊢
  refine g_iload C dX8_places_19 rfl ?_
  refine g_bipush C dX8_places_21 (by decide) ?_
  refine g_icmp_ge (tgt := 78) C dX8_places_23 (by decide) (by omega) (by omega) (fun h23 => ?_) (fun h23 => ?_)
  · refine g_aload C dX8_places_78 rfl ?_
    exact g_areturn C (Or.inr ⟨_, rfl⟩) hQ (Or.inr ⟨_, rfl⟩) dX8_places_80 (by omega) (by omega) ⟨w2.1, f, rfl, hf, fun jj hjj => hlo jj (by omega), fun jj hjj => by
      rw [hlo jj (by omega)]
      have := hrm jj
      exact ⟨Int.ediv_nonneg this.1 (by omega), by
        have := Int.ediv_le_ediv wk4 this.2
        rw [Int.mul_ediv_cancel _ (by omega)] at this
        exact this⟩, x1.tr xu⟩
  · have J42 : ∀ (u : Wd) (a : Nat), Ex w2 u → w2.1 < u.1 → u.2 w2.1 = some (true, eI 17 f) → RowAt u a (lfD P Q j) 5 → a ≠ w2.1 → G E X 6 42 [some (.ref m), some (iI (i : Int)), some (.ref q), some (.ref a), some (.ref w2.1), some (iI (j : Int))] [] u (15 + 24 * j) (91 + 126 * j) := by
      clear hf xu hgt ra hne
      intro u a xu hgt hf ra hne
      refine g_loop (σ := Wd × Nat × (Nat → Int) × Nat) (fun s => Ex w2 s.1 ∧ w2.1 < s.1.1 ∧ s.1.2 w2.1 = some (true, eI 17 s.2.2.1) ∧ RowAt s.1 s.2.1 (lfD P Q j - s.2.2.2 * Q) 5 ∧ s.2.1 ≠ w2.1 ∧ 0 ≤ lfD P Q j - s.2.2.2 * Q ∧ s.2.2.1 j = s.2.2.2 ∧ (∀ i, i < j → s.2.2.1 i = lfD P Q i / Q) ∧ (∀ i, j < i → s.2.2.1 i = 0))
        (fun s => G E X 6 42 [some (.ref m), some (iI (i : Int)), some (.ref q), some (.ref s.2.1), some (.ref w2.1), some (iI (j : Int))] [] s.1 (15 + 24 * j + 2 * s.2.2.2) (91 + 126 * j + 10 * s.2.2.2)) (fun s => (lfD P Q j - s.2.2.2 * Q).toNat) ?_ (u, a, f, 0)
        ⟨xu, hgt, hf, (by rw [show lfD P Q j - ((0 : Nat) : Int) * Q = lfD P Q j by simp]; exact ra), hne, (by rw [show lfD P Q j - ((0 : Nat) : Int) * Q = lfD P Q j by simp]; exact (hrm j).1), (by show f j = ((0 : Nat) : Int); rw [hhi j (Nat.le_refl _)]; rfl), hlo, fun i hi => hhi i (by omega)⟩
      clear hf xu hgt ra hne hlo hhi
      rintro ⟨u, a, f, c⟩ hs' ih2
      obtain ⟨xu, hgt, hf, ra, hne, h0, hc, hlo, hhi⟩ := hs'
      dsimp only at xu hgt hf ra hne h0 hc hlo hhi ⊢
      have hcc : (c : Int) ≤ 10 := by
        rcases Int.lt_or_le 10 (c : Int) with q | q
        · have := Int.mul_le_mul_of_nonneg_right (show (11 : Int) ≤ c by omega) (show 0 ≤ Q by omega)
          have := hrm j
          omega
        · exact q
      obtain ⟨na, fa, ea, bna, da⟩ := id ra
      have hrmj := hrm j
      refine g_aload_n C dX8_places_42 rfl ?_
      refine g_aload_n C dX8_places_43 rfl ?_
      refine g_iconst C dX8_places_44 ?_
      refine g_aaloadN (1) C rfl rfl (xu.2 _ _ hR0) (by omega) (by omega) k1 dX8_places_45 ?_
      refine g_callS C (c_X8_side _ ea (xu.2 _ _ eQ) bna bQ (by omega) (by omega)) ml_RX8_199 sm_yX8_side in_RX8 co_yX8_side hd_X8_side rfl ⟨by omega, by omega⟩ rfl (Nat.le_of_ble_eq_true rfl) ⟨by omega, by omega⟩ dX8_places_46 (fun v46 w46 hp46 => ?_)
      obtain ⟨⟨d46, rfl, hd46⟩, hw46⟩ := hp46
      subst w46
      refine g_if_lt (tgt := 72) C dX8_places_49 (by decide) (by omega) (fun h49 => ?_) (fun h49 => ?_)
      · refine g_iinc C dX8_places_72 rfl (by decide) rfl ?_
        refine g_goto (tgt := 19) C dX8_places_75 (by decide) ?_
        have ed : lfD P Q j % Q = lfD P Q j - (c : Int) * Q ∧ lfD P Q j / Q = c := by
          have e1 := Int.emod_add_mul_ediv (lfD P Q j) Q
          have e2 : lfD P Q j - (c : Int) * Q < Q := by omega
          have e3 : (lfD P Q j - (c : Int) * Q + Q * (c : Int)) / Q = (lfD P Q j - (c : Int) * Q) / Q + c := Int.add_mul_ediv_left _ _ (by omega)
          rw [Int.ediv_eq_zero_of_lt h0 e2, show lfD P Q j - (c : Int) * Q + Q * (c : Int) = lfD P Q j by grind] at e3
          refine ⟨?_, by omega⟩
          rw [show lfD P Q j / Q = c by omega, Int.mul_comm Q] at e1
          omega
        refine g_widen (k' := 11 + 24 * (j + 1)) (n' := 65 + 126 * (j + 1)) (by omega) (by omega) ?_
        exact ih (u, j + 1, a, f, lfD P Q j - (c : Int) * Q) ⟨by dsimp only; omega, xu, hgt, hf, ra, hne, Or.inr ⟨j, rfl, ed.1.symm⟩, fun i hi => by
          dsimp only at hi ⊢
          by_cases q : i = j
          · rw [q, hc, ed.2]
          · exact hlo i (by omega), fun i hi => hhi i (by dsimp only at hi; omega)⟩ (by dsimp only; omega)
      · refine g_aload_n C dX8_places_52 rfl ?_
        refine g_aload_n C dX8_places_53 rfl ?_
        refine g_iconst C dX8_places_54 ?_
        refine g_aaloadN (1) C rfl rfl (xu.2 _ _ hR0) (by omega) (by omega) k1 dX8_places_55 ?_
        have hcc2 : (c : Int) + 1 ≤ 10 := by
          rcases Int.lt_or_le 10 ((c : Int) + 1) with q | q
          · have e8 := Int.mul_le_mul_of_nonneg_right (show (11 : Int) ≤ (c : Int) + 1 by omega) (show 0 ≤ Q by omega)
            rw [Int.add_mul, Int.one_mul] at e8
            omega
          · exact q
        have hsQ := bQ.s
        have hsa := bna.s
        have hmQ := bQ.m
        have hma := bna.m
        have hQ1 : fQ 0 = 1 := by omega
        have ha1 : fa 0 = 1 := by omega
        rw [hQ1, Int.one_mul] at hmQ
        rw [ha1, Int.one_mul] at hma
        have hnQ := bQ.n1
        have e56 : lfD P Q j - (c : Int) * Q - Q = lfD P Q j - ((c + 1 : Nat) : Int) * Q := by rw [show ((c + 1 : Nat) : Int) = (c : Int) + 1 by omega]; grind
        refine g_callS C (c_X8_less _ (c := 5) ea (xu.2 _ _ eQ) bna bQ.d ⟨hnQ, bna.len bQ (by omega)⟩ (by omega) (by omega) (by omega)) ml_RX8_67 sm_yX8_less in_RX8 co_yX8_less hd_X8_less rfl ⟨by omega, by omega⟩ rfl (Nat.le_of_ble_eq_true rfl) ⟨by omega, by omega⟩ dX8_places_56 (fun v56 w56 hp56 => ?_)
        obtain ⟨q56, h56, rfl, e56', b56, l56, x56⟩ := hp56
        rw [ha1, Int.one_mul, ← hma, ← hmQ, e56] at b56
        have hlt := x56.1
        have hf' := x56.2 _ _ hf
        refine g_astore_n C dX8_places_59 (by decide) rfl ?_
        refine g_aload C dX8_places_60 rfl ?_
        refine g_iload C dX8_places_62 rfl ?_
        refine g_dup2 C dX8_places_64 rfl rfl ?_
        refine g_ialoadN (j) C hf' (by omega) (by omega) dX8_places_65 ?_
        rw [hc]
        refine g_iconst C dX8_places_66 ?_
        refine g_iadd C dX8_places_67 ?_
        refine g_iastoreN (j) C hf' (by omega) (by omega) dX8_places_68 ?_
        refine g_goto (tgt := 42) C dX8_places_69 (by decide) ?_
        first
        | exact g_widen (by omega) (by omega) (J42 u a xu hgt hf (by rcases hz with ⟨q, rfl⟩ | ⟨j', q, -⟩; (rw [q]; exact ra); omega) hne)
        | exact g_widen (by omega) (by omega) (J42 _ q38 (xu.tr (x34.tr x38)) (by omega) ((x34.tr x38).2 _ _ hf) (by
            rcases hz with ⟨q, rfl⟩ | ⟨j', q, hz⟩
            · omega
            · have e : 10 * z = lfD P Q j := by rw [q, hz]; rfl
              rw [e] at hb38
              have := hrm j
              exact ⟨m38, g38, h38, hb38, cap5 hb38 (by omega) (by omega)⟩) (by rcases hq38 with q | q; omega; simp at q))
        | (rw [show ((c : Int) + 1) = ((c + 1 : Nat) : Int) by omega]
           refine g_widen (k' := 15 + 24 * j + 2 * (c + 1)) (n' := 91 + 126 * j + 10 * (c + 1)) (by omega) (by omega) ?_
           exact ih2 (wset w56 w2.1 (true, eI 17 (iup f j ((c + 1 : Nat) : Int))), u.1 + 1, iup f j ((c + 1 : Nat) : Int), c + 1) ⟨(xu.tr x56).setnew hwf2 (Nat.le_refl _) _, by show w2.1 < w56.1; omega, wset_s, RowAt.wset ⟨q56, h56, e56', b56, by omega⟩ (by omega) _, by show u.1 + 1 ≠ w2.1; omega, by
               dsimp only
               rw [← e56]; omega, iup_s, fun i hi => by dsimp only; rw [iup_n (by omega)]; exact hlo i hi, fun i hi => by dsimp only; rw [iup_n (by omega)]; exact hhi i hi⟩ (by dsimp only; rw [← e56]; omega))
    refine g_iload C dX8_places_26 rfl ?_
    refine g_if_le (tgt := 42) C dX8_places_28 (by decide) (by omega) (fun h28 => ?_) (fun h28 => ?_)
    · first
      | exact g_widen (by omega) (by omega) (J42 u a xu hgt hf (by rcases hz with ⟨q, rfl⟩ | ⟨j', q, -⟩; (rw [q]; exact ra); omega) hne)
      | exact g_widen (by omega) (by omega) (J42 _ q38 (xu.tr (x34.tr x38)) (by omega) ((x34.tr x38).2 _ _ hf) (by
          rcases hz with ⟨q, rfl⟩ | ⟨j', q, hz⟩
          · omega
          · have e : 10 * z = lfD P Q j := by rw [q, hz]; rfl
            rw [e] at hb38
            have := hrm j
            exact ⟨m38, g38, h38, hb38, cap5 hb38 (by omega) (by omega)⟩) (by rcases hq38 with q | q; omega; simp at q))
      | (rw [show ((c : Int) + 1) = ((c + 1 : Nat) : Int) by omega]
         refine g_widen (k' := 15 + 24 * j + 2 * (c + 1)) (n' := 91 + 126 * j + 10 * (c + 1)) (by omega) (by omega) ?_
         exact ih2 (wset w56 w2.1 (true, eI 17 (iup f j ((c + 1 : Nat) : Int))), u.1 + 1, iup f j ((c + 1 : Nat) : Int), c + 1) ⟨(xu.tr x56).setnew hwf2 (Nat.le_refl _) _, by show w2.1 < w56.1; omega, wset_s, RowAt.wset ⟨q56, h56, e56', b56, by omega⟩ (by omega) _, by show u.1 + 1 ≠ w2.1; omega, by
             dsimp only
             rw [← e56]; omega, iup_s, fun i hi => by dsimp only; rw [iup_n (by omega)]; exact hlo i hi, fun i hi => by dsimp only; rw [iup_n (by omega)]; exact hhi i hi⟩ (by dsimp only; rw [← e56]; omega))
    · refine g_ldc2 (z := 10) C kj_RX8_202 (by decide) dX8_places_31 ?_
      refine g_callS C (c_X8_of _ (v := 10) (by omega)) ml_RX8_20 sm_yX8_of in_RX8 co_yX8_of hd_X8_of rfl ⟨by omega, by omega⟩ rfl (Nat.le_of_ble_eq_true rfl) ⟨by omega, by omega⟩ dX8_places_34 (fun v34 w34 hp34 => ?_)
      obtain ⟨m34, k34, rfl, h34, hb34, hm34, s34, x34⟩ := hp34
      obtain ⟨na, fa, ea, bna, da⟩ := id ra
      refine g_aload_n C dX8_places_37 rfl ?_
      refine g_callS C (c_X8_times _ (c := 9) h34 (x34.2 _ _ ea) hb34 bna (by omega) (by omega)) ml_RX8_124 sm_yX8_times in_RX8 co_yX8_times hd_X8_times rfl ⟨by omega, by omega⟩ rfl (Nat.le_of_ble_eq_true rfl) ⟨by omega, by omega⟩ dX8_places_38 (fun v38 w38 hp38 => ?_)
      obtain ⟨q38, m38, g38, rfl, h38, hb38, hm38, x38, hq38⟩ := hp38
      have g38g := x34.1
      have g38h := x38.1
      refine g_astore_n C dX8_places_41 (by decide) rfl ?_
      first
      | exact g_widen (by omega) (by omega) (J42 u a xu hgt hf (by rcases hz with ⟨q, rfl⟩ | ⟨j', q, -⟩; (rw [q]; exact ra); omega) hne)
      | exact g_widen (by omega) (by omega) (J42 _ q38 (xu.tr (x34.tr x38)) (by omega) ((x34.tr x38).2 _ _ hf) (by
          rcases hz with ⟨q, rfl⟩ | ⟨j', q, hz⟩
          · omega
          · have e : 10 * z = lfD P Q j := by rw [q, hz]; rfl
            rw [e] at hb38
            have := hrm j
            exact ⟨m38, g38, h38, hb38, cap5 hb38 (by omega) (by omega)⟩) (by rcases hq38 with q | q; omega; simp at q))
      | (rw [show ((c : Int) + 1) = ((c + 1 : Nat) : Int) by omega]
         refine g_widen (k' := 15 + 24 * j + 2 * (c + 1)) (n' := 91 + 126 * j + 10 * (c + 1)) (by omega) (by omega) ?_
         exact ih2 (wset w56 w2.1 (true, eI 17 (iup f j ((c + 1 : Nat) : Int))), u.1 + 1, iup f j ((c + 1 : Nat) : Int), c + 1) ⟨(xu.tr x56).setnew hwf2 (Nat.le_refl _) _, by show w2.1 < w56.1; omega, wset_s, RowAt.wset ⟨q56, h56, e56', b56, by omega⟩ (by omega) _, by show u.1 + 1 ≠ w2.1; omega, by
             dsimp only
             rw [← e56]; omega, iup_s, fun i hi => by dsimp only; rw [iup_n (by omega)]; exact hlo i hi, fun i hi => by dsimp only; rw [iup_n (by omega)]; exact hhi i hi⟩ (by dsimp only; rw [← e56]; omega))
set_option maxHeartbeats 4000000 in
set_option maxRecDepth 100000 in
theorem c_X8_rootPlaces (l : Launch) {E : GE} {w : Wd} {b : Int} (hb : 1 ≤ b ∧ b ≤ 99) : Sp E l yX8_rootPlaces cX8_rootPlaces 8 (some (.array .int)) 0 (1) (17) [iI b] w (fun r1 w' => ∃ f : Nat → Int, r1 = some (.ref w.1) ∧ w' = wpush w (true, eI 17 f) ∧ ∀ j, j < 17 → rpD b j (f j) ∧ 0 ≤ f j ∧ f j ≤ 9) := by
  refine sp_intro [some (iI b), none, none, none, none, none, none, none] rfl (Nat.le_of_ble_eq_true rfl) pn_X8 ?_
  intro X C hRm hl hnm hQ
  obtain ⟨hRf, hRl, hRc, hRs⟩ := hRm
  refine g_wf (fun hwf => ?_)
  refine g_bipush C dX8_rootPlaces_0 (by decide) ?_
  refine g_newI C gw_arrayClass_int (N := 17) rfl (by omega) (by omega) dX8_rootPlaces_2 ?_
  refine g_astore_n C dX8_rootPlaces_4 (by decide) rfl ?_
  refine g_lconst (z := 0) C dX8_rootPlaces_5 (by decide) ?_
  refine g_lstore_n C dX8_rootPlaces_6 (by decide) rfl ?_
  refine g_iload_n C dX8_rootPlaces_7 rfl ?_
  refine g_i2l C dX8_rootPlaces_8 (by omega) ?_
  refine g_lstore C dX8_rootPlaces_9 (by decide) rfl ?_
  refine g_iconst C dX8_rootPlaces_11 ?_
  refine g_istore C dX8_rootPlaces_12 (by decide) rfl ?_
  refine g_loop (σ := Nat × Int × Int × (Nat → Int)) (fun s => s.1 ≤ 17 ∧ (s.1 = 0 ∧ s.2.1 = 0 ∨ ∃ i, s.1 = i + 1 ∧ RT (b * 100 ^ i) s.2.1) ∧ s.2.2.1 = b * 100 ^ s.1 - 100 * (s.2.1 * s.2.1) ∧ ∀ i, i < s.1 → rpD b i (s.2.2.2 i) ∧ 0 ≤ s.2.2.2 i ∧ s.2.2.2 i ≤ 9)
    (fun s => G E X 8 14 [some (iI b), some (.ref w.1), some (jJ s.2.1), none, some (jJ s.2.2.1), none, some (iI (s.1 : Int)), none] [] (wpush w (true, eI 17 s.2.2.2)) 1 17) (fun s => 17 - s.1) ?_ (0, 0, b, fun _ => 0) ⟨by dsimp only; omega, Or.inl ⟨rfl, rfl⟩, by dsimp only; rw [Int.pow_zero]; omega, fun i hi => absurd hi (Nat.not_lt_zero i)⟩
  rintro ⟨k, S, left, f⟩ hq ih
  obtain ⟨hk, hS, hl, hf⟩ := hq
  dsimp only at hk hS hl hf ⊢
  refine g_iload C dX8_rootPlaces_14 rfl ?_
  refine g_bipush C dX8_rootPlaces_16 (by decide) ?_
  refine g_icmp_ge (tgt := 97) C dX8_rootPlaces_18 (by decide) (by omega) (by omega) (fun h18 => ?_) (fun h18 => ?_)
  · refine g_aload_n C dX8_rootPlaces_97 rfl ?_
    exact g_areturn C (Or.inr ⟨_, rfl⟩) hQ (Or.inr ⟨_, rfl⟩) dX8_rootPlaces_98 (by omega) (by omega) ⟨f, rfl, rfl, fun j hj => hf j (by omega)⟩
  · obtain ⟨N, hN, hN0, hN1⟩ : ∃ N : Int, N = b * 100 ^ k ∧ 0 ≤ N ∧ (k ≤ 16 → N ≤ 9900000000000000000000000000000000) := by
      refine ⟨_, rfl, Int.mul_nonneg (by omega) (Int.le_of_lt (Int.pow_pos (by decide))), fun q => ?_⟩
      have e : (100 : Int) ^ 16 = 100 ^ k * 100 ^ (16 - k) := by rw [← Int.pow_add]; congr 1; omega
      have p1 : (0 : Int) < 100 ^ k := Int.pow_pos (by decide)
      have p2 : (0 : Int) < 100 ^ (16 - k) := Int.pow_pos (by decide)
      have e2 : (100 : Int) ^ 16 = 100000000000000000000000000000000 := by decide +kernel
      have h3 := Int.mul_le_mul_of_nonneg_left (show (1 : Int) ≤ 100 ^ (16 - k) by omega) (Int.le_of_lt p1)
      rw [← e, e2] at h3
      have h4 := Int.mul_le_mul hb.2 (show (100 : Int) ^ k ≤ 100000000000000000000000000000000 by omega) (Int.le_of_lt p1) (by omega)
      omega
    have hSS : 0 ≤ S ∧ 100 * (S * S) ≤ N ∧ N < 100 * ((S + 1) * (S + 1)) := by
      rcases hS with ⟨q, rfl⟩ | ⟨i, q, h1, h2, h3⟩
      · rw [q, Int.pow_zero] at hN
        refine ⟨by omega, by omega, by omega⟩
      · rw [q, Int.pow_succ, ← Int.mul_assoc] at hN
        generalize S * S = s2 at *
        generalize (S + 1) * (S + 1) = s3 at *
        omega
    rw [← hN] at hl
    obtain ⟨hS0, hSl, hSh⟩ := hSS
    refine g_iconst C dX8_rootPlaces_21 ?_
    refine g_istore C dX8_rootPlaces_22 (by decide) rfl ?_
    have hk16 : k ≤ 16 := by omega
    have hN2 := hN1 hk16
    have hSb : S < 10000000000000000 := sq_lt_of (by omega) (by generalize S * S = s2 at *; omega)
    have eq3 : (S + 1) * (S + 1) = S * S + 2 * S + 1 := by grind
    have hlb : 0 ≤ left ∧ left < 3000000000000000000 := by generalize S * S = s2 at *; generalize (S + 1) * (S + 1) = s3 at *; omega
    refine g_loop (σ := Int) (fun d => 0 ≤ d ∧ d ≤ 9 ∧ (20 * S + d) * d ≤ left) (fun d => G E X 8 24 [some (iI b), some (.ref w.1), some (jJ S), none, some (jJ left), none, some (iI (k : Int)), some (iI d)] [] (wpush w (true, eI 17 f)) 1 17) (fun d => (9 - d).toNat) ?_ 0 ⟨by omega, by omega, by omega⟩
    rintro d ⟨hd0, hd9, hdl⟩ ih2
    have e1 : (20 * S + d + 1) * (d + 1) = 20 * (S * (d + 1)) + (d + 1) * (d + 1) := by grind
    have e2 : 0 ≤ S * (d + 1) := Int.mul_nonneg hS0 (by omega)
    have e3 : S * (d + 1) ≤ 10000000000000000 * 10 := Int.mul_le_mul (by omega) (by omega) (by omega) (by omega)
    have e4 : (d + 1) * (d + 1) ≤ 10 * 10 := Int.mul_le_mul (by omega) (by omega) (by omega) (by omega)
    have e5 : 0 ≤ (d + 1) * (d + 1) := Int.mul_nonneg (by omega) (by omega)
    have e6 : (10 * S + d) * (10 * S + d) = 100 * (S * S) + (20 * S + d) * d := by grind
    have e7 : (10 * S + d + 1) * (10 * S + d + 1) = 100 * (S * S) + (20 * S + d + 1) * (d + 1) := by grind
    refine g_ldc2 (z := 20) C kj_RX8_213 (by decide) dX8_rootPlaces_24 ?_
    refine g_lload_n C dX8_rootPlaces_27 rfl ?_
    refine g_lmul C dX8_rootPlaces_28 ?_
    refine g_iload C dX8_rootPlaces_29 rfl ?_
    refine g_i2l C dX8_rootPlaces_31 (by omega) ?_
    refine g_ladd C dX8_rootPlaces_32 ?_
    refine g_lconst (z := 1) C dX8_rootPlaces_33 (by decide) ?_
    refine g_ladd C dX8_rootPlaces_34 ?_
    refine g_iload C dX8_rootPlaces_35 rfl ?_
    refine g_iconst C dX8_rootPlaces_37 ?_
    refine g_iadd C dX8_rootPlaces_38 ?_
    refine g_i2l C dX8_rootPlaces_39 (by omega) ?_
    refine g_lmul C dX8_rootPlaces_40 ?_
    refine g_lload C dX8_rootPlaces_41 rfl ?_
    refine g_lcmp C dX8_rootPlaces_43 (by generalize (20 * S + d + 1) * (d + 1) = x9 at *; omega) (by omega) (fun c43 hc43 => ?_)
    refine g_if_gt (tgt := 53) C dX8_rootPlaces_44 (by decide) (by omega) (fun h44 => ?_) (fun h44 => ?_)
    · refine g_ldc2 (z := 100) C kj_RX8_215 (by decide) dX8_rootPlaces_53 ?_
      refine g_lload C dX8_rootPlaces_56 rfl ?_
      refine g_ldc2 (z := 20) C kj_RX8_213 (by decide) dX8_rootPlaces_58 ?_
      refine g_lload_n C dX8_rootPlaces_61 rfl ?_
      refine g_lmul C dX8_rootPlaces_62 ?_
      refine g_iload C dX8_rootPlaces_63 rfl ?_
      refine g_i2l C dX8_rootPlaces_65 (by omega) ?_
      refine g_ladd C dX8_rootPlaces_66 ?_
      refine g_iload C dX8_rootPlaces_67 rfl ?_
      refine g_i2l C dX8_rootPlaces_69 (by omega) ?_
      refine g_lmul C dX8_rootPlaces_70 ?_
      refine g_lsub C dX8_rootPlaces_71 ?_
      refine g_lmul C dX8_rootPlaces_72 ?_
      refine g_lstore C dX8_rootPlaces_73 (by decide) rfl ?_
      refine g_ldc2 (z := 10) C kj_RX8_202 (by decide) dX8_rootPlaces_75 ?_
      refine g_lload_n C dX8_rootPlaces_78 rfl ?_
      refine g_lmul C dX8_rootPlaces_79 ?_
      refine g_iload C dX8_rootPlaces_80 rfl ?_
      refine g_i2l C dX8_rootPlaces_82 (by omega) ?_
      refine g_ladd C dX8_rootPlaces_83 ?_
      refine g_lstore_n C dX8_rootPlaces_84 (by decide) rfl ?_
      refine g_aload_n C dX8_rootPlaces_85 rfl ?_
      refine g_iload C dX8_rootPlaces_86 rfl ?_
      refine g_iload C dX8_rootPlaces_88 rfl ?_
      refine g_iastoreN (k) C wpush_s (by omega) (by omega) dX8_rootPlaces_90 ?_
      rw [wset_push]
      refine g_iinc C dX8_rootPlaces_91 rfl (by decide) rfl ?_
      refine g_goto (tgt := 14) C dX8_rootPlaces_94 (by decide) ?_
      have hRT : RT (b * 100 ^ k) (10 * S + d) := by
        rw [← hN]
        exact ⟨by omega, by rw [e6]; omega, by rw [e7]; omega⟩
      refine g_drop 7 ?_
      exact ih (k + 1, 10 * S + d, 100 * (left - (20 * S + d) * d), iup f k d) ⟨by dsimp only; omega, Or.inr ⟨k, rfl, hRT⟩, by
        dsimp only
        rw [e6, Int.pow_succ, ← Int.mul_assoc, ← hN, hl]
        generalize S * S = s2 at *
        generalize (20 * S + d) * d = s3 at *
        omega, fun i hi => by
        dsimp only at hi ⊢
        by_cases q : i = k
        · rw [q, iup_s]
          refine ⟨⟨10 * S + d, S, hRT, hS, by omega⟩, hd0, hd9⟩
        · rw [iup_n q]; exact hf i (by omega)⟩ (by dsimp only; omega)
    · refine g_iinc C dX8_rootPlaces_47 rfl (by decide) rfl ?_
      refine g_goto (tgt := 24) C dX8_rootPlaces_50 (by decide) ?_
      exact ih2 (d + 1) ⟨by omega, by
        rcases Int.lt_or_le d 9 with q | q
        · omega
        · have : d = 9 := by omega
          subst this
          have e8 : (20 * S + 9 + 1) * (9 + 1) = 200 * S + 100 := by omega
          rw [e8] at hc43
          omega, by rw [show 20 * S + (d + 1) = 20 * S + d + 1 by omega]; omega⟩ (by
        rcases Int.lt_or_le d 9 with q | q
        · omega
        · have : d = 9 := by omega
          subst this
          have e8 : (20 * S + 9 + 1) * (9 + 1) = 200 * S + 100 := by omega
          rw [e8] at hc43
          omega)
set_option maxHeartbeats 4000000 in
set_option maxRecDepth 100000 in
theorem c_X8_alike (l : Launch) {E : GE} {w : Wd} {v : Int} (h_v : -2147483648 ≤ v ∧ v < 2147483648) {τ : Nat → Nat} {m : Nat} {A : MA} {th : Int} {ba st pb le ri : Nat → Int} {sp : Nat → Nat → Int} {ct : Nat → Int} (hM : MSx τ w m A th ba st pb le ri sp ct) (hB : ∀ i, i < 3 → GB (ba i)) (hS : ∀ i, i < 3 → 0 ≤ st i ∧ st i ≤ 24) : Sp E l yX8_alike cX8_alike 5 (some .int) 4 (420) (2224) [.ref m, iI v] w (fun r' w' => ∃ (t ans : Int), r' = some (iI ans) ∧ MSx τ w' m A (t) (ba) (st) (pb) (le) (ri) (sp) (ct) ∧ Keep τ w w' ∧ (¬ (0 ≤ v ∧ v ≤ 2) ∧ t = 1 ∧ ans = 0 ∨ (0 ≤ v ∧ v ≤ 2) ∧ t = 0 ∧ ∃ r, RT (ba v.toNat) r ∧ ∃ n : Nat, n ≤ 17 ∧ ans = n - 1 ∧ (∀ i, i < n → rpD (ba v.toNat) i (lfD (pq (ba v.toNat) r 1 r (st v.toNat).toNat).1 (pq (ba v.toNat) r 0 1 (st v.toNat).toNat).1 i / (pq (ba v.toNat) r 0 1 (st v.toNat).toNat).1)) ∧ (n < 17 → ¬ rpD (ba v.toNat) n (lfD (pq (ba v.toNat) r 1 r (st v.toNat).toNat).1 (pq (ba v.toNat) r 0 1 (st v.toNat).toNat).1 n / (pq (ba v.toNat) r 0 1 (st v.toNat).toNat).1)))) := by
  refine sp_intro [some (.ref m), some (iI v), none, none, none] rfl (Nat.le_of_ble_eq_true rfl) pn_X8 ?_
  intro X C hRm hl hnm hQ
  obtain ⟨hRf, hRl, hRc, hRs⟩ := hRm
  refine g_wf (fun hwf => ?_)
  refine g_aload_n C dX8_alike_0 rfl ?_
  refine g_iload_n C dX8_alike_1 rfl ?_
  refine g_callS C (c_X8_isNo _ (v := v) h_v) ml_RX8_145 sm_yX8_isNo in_RX8 co_yX8_isNo hd_X8_isNo rfl ⟨by omega, by omega⟩ rfl (Nat.le_of_ble_eq_true rfl) ⟨by omega, by omega⟩ dX8_alike_2 (fun v2 w2 hp2 => ?_)
  obtain ⟨rfl, hw2⟩ := hp2
  subst w2
  refine g_iconst C dX8_alike_5 ?_
  refine g_callV C (c_X8_start _ hM (y := bI (¬ (0 ≤ v ∧ v ≤ 2))) (wh := 1) (bI_01 _) (by omega)) (ci := 10) rfl hM.o rfl ml_RX8_149 im_yX8_start se_RX8_yX8_start in_RX8 co_yX8_start hd_X8_start rfl ⟨by omega, by omega⟩ rfl (Nat.le_of_ble_eq_true rfl) ⟨by omega, by omega⟩ dX8_alike_6 (fun v6 w6 hp6 => ?_)
  obtain ⟨t6, rfl, ht6, hM6, hK6⟩ := hp6
  have hy6 : (bI (¬ (0 ≤ v ∧ v ≤ 2))) = 0 ∨ (bI (¬ (0 ≤ v ∧ v ≤ 2))) = 1 := (bI_01 _)
  refine g_if_eq (tgt := 14) C dX8_alike_9 (by decide) (bI_r _) (fun h9 => ?_) (fun h9 => ?_)
  · have hwk : 0 ≤ v ∧ v ≤ 2 := Classical.not_not.mp (bI_0 (by omega))
    obtain ⟨V, rfl⟩ := Int.eq_ofNat_of_zero_le hwk.1
    have hg := hB V (by omega)
    obtain ⟨r, hr⟩ := RT_ex hg
    have hsv := hS V (by omega)
    have hg1 := hg.1
    have hg2 := hg.2.1
    refine g_aload_n C dX8_alike_14 rfl ?_
    refine g_iload_n C dX8_alike_15 rfl ?_
    refine g_callV C (c_X8_places _ hM6 (i := V) (r := r) (by omega) hg hr hsv) (ci := 10) rfl hM6.o rfl ml_RX8_207 im_yX8_places se_RX8_yX8_places in_RX8 co_yX8_places hd_X8_places rfl ⟨by omega, by omega⟩ rfl (Nat.le_of_ble_eq_true rfl) ⟨by omega, by omega⟩ dX8_alike_16 (fun v16 w16 hp16 => ?_)
    obtain ⟨q16, f16, rfl, h16, hf16, hr16, x16⟩ := hp16
    have hM7 := hM6.ex x16
    refine g_astore_n C dX8_alike_19 (by decide) rfl ?_
    refine g_aload_n C dX8_alike_20 rfl ?_
    refine g_get (ci := 10) C rfl inTX8 1 (by decide) fl_RX8_9 rfl hM7.o rfl dX8_alike_21 ?_
    refine g_iload_n C dX8_alike_24 rfl ?_
    refine g_ialoadN (V) C hM7.b (by omega) (by omega) dX8_alike_25 ?_
    refine g_wf (fun hwf26 => ?_)
    refine g_callS C (c_X8_rootPlaces _ (b := ba V) (by omega)) ml_RX8_217 sm_yX8_rootPlaces in_RX8 co_yX8_rootPlaces hd_X8_rootPlaces rfl ⟨by omega, by omega⟩ rfl (Nat.le_of_ble_eq_true rfl) ⟨by omega, by omega⟩ dX8_alike_26 (fun v26 w26 hp26 => ?_)
    obtain ⟨f26, rfl, rfl, hf26⟩ := hp26
    have hM8 := hM7.ex (Ex.push hwf26 (true, eI 17 f26))
    have h16' := (Ex.push hwf26 (true, eI 17 f26)).2 _ _ h16
    refine g_astore_n C dX8_alike_29 (by decide) rfl ?_
    refine g_iconst C dX8_alike_30 ?_
    refine g_istore C dX8_alike_31 (by decide) rfl ?_
    have J57 : ∀ j : Nat, j ≤ 17 → (∀ i, i < j → f16 i = f26 i) → (j < 17 → f16 j ≠ f26 j) → G E X 5 57 [some (.ref m), some (iI (V : Int)), some (.ref q16), some (.ref w16.1), some (iI (j : Int))] [] (wpush w16 (true, eI 17 f26)) 420 2224 := by
      intro j hj h1 h2
      refine g_iload C dX8_alike_57 rfl ?_
      refine g_iconst C dX8_alike_59 ?_
      refine g_isub C dX8_alike_60 ?_
      exact g_ireturn C hQ dX8_alike_61 (by omega) (by omega) ⟨t6, _, rfl, hM8, hK6.tr (Keep.ex (x16.tr (Ex.push hwf26 _))), Or.inr ⟨hwk, by omega, r, hr, j, hj, rfl, fun i hi => by
        have e := h1 i hi
        rw [hf16 i (by omega)] at e
        show rpD (ba V) i (lfD (pq (ba V) r 1 r (st V).toNat).1 (pq (ba V) r 0 1 (st V).toNat).1 i / (pq (ba V) r 0 1 (st V).toNat).1)
        rw [e]; exact (hf26 i (by omega)).1, fun hi hc => h2 hi (by
        rw [hf16 j hi]
        exact rpD_uniq hc (hf26 j hi).1)⟩⟩
    refine g_loop (σ := Nat) (fun j => j ≤ 17 ∧ ∀ i, i < j → f16 i = f26 i) (fun j => G E X 5 33 [some (.ref m), some (iI (V : Int)), some (.ref q16), some (.ref w16.1), some (iI (j : Int))] [] (wpush w16 (true, eI 17 f26)) 420 2224) (fun j => 17 - j) ?_ 0 ⟨by omega, fun i hi => absurd hi (Nat.not_lt_zero i)⟩
    rintro j ⟨hj, h1⟩ ih
    refine g_iload C dX8_alike_33 rfl ?_
    refine g_bipush C dX8_alike_35 (by decide) ?_
    refine g_icmp_ge (tgt := 57) C dX8_alike_37 (by decide) (by omega) (by omega) (fun h37 => ?_) (fun h37 => ?_)
    · exact J57 j hj h1 (by first | exact fun _ => h48 | (intro q; omega))
    · have hrj := hr16 j (by omega)
      have hrj2 := (hf26 j (by omega)).2
      refine g_aload_n C dX8_alike_40 rfl ?_
      refine g_iload C dX8_alike_41 rfl ?_
      refine g_ialoadN (j) C h16' (by omega) (by omega) dX8_alike_43 ?_
      refine g_aload_n C dX8_alike_44 rfl ?_
      refine g_iload C dX8_alike_45 rfl ?_
      refine g_ialoadN (j) C wpush_s (by omega) (by omega) dX8_alike_47 ?_
      refine g_icmp_ne (tgt := 57) C dX8_alike_48 (by decide) (by omega) (by omega) (fun h48 => ?_) (fun h48 => ?_)
      · exact J57 j hj h1 (by first | exact fun _ => h48 | (intro q; omega))
      · refine g_iinc C dX8_alike_51 rfl (by decide) rfl ?_
        refine g_goto (tgt := 33) C dX8_alike_54 (by decide) ?_
        exact ih (j + 1) ⟨by omega, fun i hi => by
          by_cases q : i = j
          · rw [q]; omega
          · exact h1 i (by omega)⟩ (by omega)
  · refine g_iconst C dX8_alike_12 ?_
    exact g_ireturn C hQ dX8_alike_13 (by omega) (by omega) ⟨t6, _, rfl, hM6, hK6, Or.inl ⟨bI_1 h9, by omega, rfl⟩⟩
