/-- a number that stands at an address -/
def RowAt (w : Wd) (a : Nat) (z : Int) (cap : Nat) : Prop := ∃ (m : Nat) (f : Nat → Int), w.2 a = some (true, eI m f) ∧ BN f m z ∧ m ≤ cap
/-- four numbers in an array -/
def R4 (lo : Nat) (w : Wd) (q : Nat) (z0 z1 z2 z3 : Int) : Prop := ∃ (R : Nat → Option Nat) (a0 a1 a2 a3 : Nat), w.2 q = some (true, eR 2 4 R) ∧ R 0 = some a0 ∧ R 1 = some a1 ∧ R 2 = some a2 ∧ R 3 = some a3 ∧ RowAt w a0 z0 5 ∧ RowAt w a1 z1 5 ∧ RowAt w a2 z2 5 ∧ RowAt w a3 z3 5 ∧ lo ≤ a0 ∧ lo ≤ a1 ∧ lo ≤ a2 ∧ lo ≤ a3
theorem RowAt.ex {w w' : Wd} {a cap : Nat} {z : Int} (h : RowAt w a z cap) (e : Ex w w') : RowAt w' a z cap := by
  obtain ⟨m, f, h1, h2, h3⟩ := h
  exact ⟨m, f, e.2 _ _ h1, h2, h3⟩
theorem R4.ex {lo : Nat} {w w' : Wd} {q : Nat} {z0 z1 z2 z3 : Int} (h : R4 lo w q z0 z1 z2 z3) (e : Ex w w') : R4 lo w' q z0 z1 z2 z3 := by
  obtain ⟨R, a0, a1, a2, a3, h0, h1, h2, h3, h4, h5, h6, h7, h8, h9⟩ := h
  exact ⟨R, a0, a1, a2, a3, e.2 _ _ h0, h1, h2, h3, h4, h5.ex e, h6.ex e, h7.ex e, h8.ex e, h9⟩
/-- a world that keeps what stood in an older one -/
def Fr (w u : Wd) : Prop := w.1 ≤ u.1 ∧ ∀ a, a < w.1 → u.2 a = w.2 a
theorem Fr.rf (w : Wd) : Fr w w := ⟨Nat.le_refl _, fun _ _ => rfl⟩
theorem Fr.push {w u : Wd} (h : Fr w u) (e : WdE) : Fr w (wpush u e) := ⟨Nat.le_succ_of_le h.1, fun a ha => by rw [wpush_n (by have := h.1; omega)]; exact h.2 a ha⟩
theorem Fr.set {w u : Wd} (h : Fr w u) {a : Nat} (ha : w.1 ≤ a) (e : WdE) : Fr w (wset u a e) := ⟨h.1, fun b hb => by rw [wset_n (by omega)]; exact h.2 b hb⟩
theorem Fr.tr {w u v : Wd} (h : Fr w u) (g : Fr u v) : Fr w v := ⟨Nat.le_trans h.1 g.1, fun a ha => (g.2 a (by have := h.1; omega)).trans (h.2 a ha)⟩
theorem Fr.ex {w u : Wd} (h : Fr w u) (hw : wF w) : Ex w u := ⟨h.1, fun a x hx => by rw [h.2 a (hw a x hx)]; exact hx⟩
set_option maxHeartbeats 4000000 in
set_option maxRecDepth 100000 in
theorem c_X8_terms (l : Launch) {E : GE} {w : Wd} {b r : Int} {K : Nat} (hb : GB b) (hr : RT b r) (hK : K ≤ 47) : Sp E l yX8_terms cX8_terms 5 (some (.array .int)) 1 (1) (3) [iI b, iI (K : Int)] w (fun r1 w' => ∃ f : Nat → Int, r1 = some (.ref w.1) ∧ w' = wpush w (true, eI 3 f) ∧ f 0 = (cf b r K).1 ∧ f 1 = (cf b r K).2.1 ∧ f 2 = (cf b r K).2.2) := by
  refine sp_intro [some (iI b), some (iI (K : Int)), none, none, none] rfl (Nat.le_of_ble_eq_true rfl) pn_X8 ?_
  intro X C hRm hl hnm hQ
  obtain ⟨hRf, hRl, hRc, hRs⟩ := hRm
  refine g_wf (fun hwf => ?_)
  have hb1 := hb.1
  have hb2 := hb.2.1
  have hr9 := RT_le hb hr
  refine g_iload_n C dX8_terms_0 rfl ?_
  refine g_callS C (c_X8_root _ (b := b) (by omega)) ml_RX8_130 sm_yX8_root in_RX8 co_yX8_root hd_X8_root rfl ⟨by omega, by omega⟩ rfl (Nat.le_of_ble_eq_true rfl) ⟨by omega, by omega⟩ dX8_terms_1 (fun v1 w1 hp1 => ?_)
  obtain ⟨⟨r2, rfl, q1, q2, q3⟩, hw1⟩ := hp1
  subst w1
  have er := RT_uniq hr ⟨q1, q2, q3⟩
  subst er
  refine g_istore_n C dX8_terms_4 (by decide) rfl ?_
  refine g_iconst C dX8_terms_5 ?_
  refine g_newI C gw_arrayClass_int (N := 3) rfl (by omega) (by omega) dX8_terms_6 ?_
  refine g_dup C dX8_terms_8 rfl ?_
  refine g_iconst C dX8_terms_9 ?_
  refine g_iconst C dX8_terms_10 ?_
  refine g_iastore C wpush_s (by omega) dX8_terms_11 ?_
  rw [wset_push]
  refine g_dup C dX8_terms_12 rfl ?_
  refine g_iconst C dX8_terms_13 ?_
  refine g_iconst C dX8_terms_14 ?_
  refine g_iastore C wpush_s (by omega) dX8_terms_15 ?_
  rw [wset_push]
  refine g_dup C dX8_terms_16 rfl ?_
  refine g_iconst C dX8_terms_17 ?_
  refine g_iload_n C dX8_terms_18 rfl ?_
  refine g_iastore C wpush_s (by omega) dX8_terms_19 ?_
  rw [wset_push]
  refine g_astore_n C dX8_terms_20 (by decide) rfl ?_
  refine g_iconst C dX8_terms_21 ?_
  refine g_istore C dX8_terms_22 (by decide) rfl ?_
  refine g_loop (σ := Nat × (Nat → Int)) (fun q => q.1 ≤ K ∧ q.2 0 = (cf b r q.1).1 ∧ q.2 1 = (cf b r q.1).2.1 ∧ q.2 2 = (cf b r q.1).2.2) (fun q => G E X 5 24 [some (iI b), some (iI (K : Int)), some (iI r), some (.ref w.1), some (iI (q.1 : Int))] [] (wpush w (true, eI 3 q.2)) 1 3) (fun q => K - q.1) ?_ (0, iup (iup (iup (fun _ => 0) 0 0) 1 1) 2 r) ⟨by dsimp only; omega, rfl, rfl, rfl⟩
  rintro ⟨j, g⟩ hq ih
  obtain ⟨hj, e0, e1, e2⟩ := hq
  dsimp only at hj e0 e1 e2 ⊢
  refine g_iload C dX8_terms_24 rfl ?_
  refine g_iload_n C dX8_terms_26 rfl ?_
  refine g_icmp_ge (tgt := 78) C dX8_terms_27 (by decide) (by omega) (by omega) (fun h27 => ?_) (fun h27 => ?_)
  · refine g_aload_n C dX8_terms_78 rfl ?_
    exact g_areturn C (Or.inr ⟨_, rfl⟩) hQ (Or.inr ⟨_, rfl⟩) dX8_terms_79 (by omega) (by omega) ⟨g, rfl, rfl, by rw [e0, show j = K by omega], by rw [e1, show j = K by omega], by rw [e2, show j = K by omega]⟩
  · have c0 := cf_good hb hr (k := j) (by omega)
    have c1 := cf_good hb hr (k := j + 1) (by omega)
    have s0 : (cf b r (j + 1)).1 = g 1 * g 2 - g 0 := by rw [e0, e1, e2]; rfl
    have s1' : (cf b r (j + 1)).2.1 = (b - (cf b r (j + 1)).1 * (cf b r (j + 1)).1) / g 1 := by rw [e1]; rfl
    have s2' : (cf b r (j + 1)).2.2 = (r + (cf b r (j + 1)).1) / (cf b r (j + 1)).2.1 := rfl
    generalize hp : cf b r (j + 1) = p at c1 s0 s1' s2'
    obtain ⟨pm, pd, pa⟩ := p
    dsimp only at c1 s0 s1' s2'
    have hsq : 0 ≤ pm * pm := Int.mul_nonneg c1.1 c1.1
    have hsq2 : pm * pm ≤ r * r := Int.mul_le_mul c1.2.1 c1.2.1 c1.1 hr.1
    have hsq3 := hr.2.1
    refine g_aload_n C dX8_terms_30 rfl ?_
    refine g_iconst C dX8_terms_31 ?_
    refine g_aload_n C dX8_terms_32 rfl ?_
    refine g_iconst C dX8_terms_33 ?_
    refine g_ialoadN (1) C wpush_s (by omega) (by omega) dX8_terms_34 ?_
    refine g_aload_n C dX8_terms_35 rfl ?_
    refine g_iconst C dX8_terms_36 ?_
    refine g_ialoadN (2) C wpush_s (by omega) (by omega) dX8_terms_37 ?_
    refine g_imul C dX8_terms_38 ?_
    refine g_aload_n C dX8_terms_39 rfl ?_
    refine g_iconst C dX8_terms_40 ?_
    refine g_ialoadN (0) C wpush_s (by omega) (by omega) dX8_terms_41 ?_
    refine g_isub C dX8_terms_42 ?_
    refine g_iastoreN (0) C wpush_s (by omega) (by omega) dX8_terms_43 ?_
    rw [wset_push, ← s0]
    refine g_aload_n C dX8_terms_44 rfl ?_
    refine g_iconst C dX8_terms_45 ?_
    refine g_iload_n C dX8_terms_46 rfl ?_
    refine g_aload_n C dX8_terms_47 rfl ?_
    refine g_iconst C dX8_terms_48 ?_
    refine g_ialoadN (0) C wpush_s (by omega) (by omega) dX8_terms_49 ?_
    rw [iup_s]
    refine g_aload_n C dX8_terms_50 rfl ?_
    refine g_iconst C dX8_terms_51 ?_
    refine g_ialoadN (0) C wpush_s (by omega) (by omega) dX8_terms_52 ?_
    rw [iup_s]
    refine g_imul C dX8_terms_53 ?_
    refine g_isub C dX8_terms_54 ?_
    refine g_aload_n C dX8_terms_55 rfl ?_
    refine g_iconst C dX8_terms_56 ?_
    refine g_ialoadN (1) C wpush_s (by omega) (by omega) dX8_terms_57 ?_
    rw [iup_n (by omega)]
    refine g_idivN C dX8_terms_58 (by omega) (by omega) ?_
    refine g_iastoreN (1) C wpush_s (by omega) (by omega) dX8_terms_59 ?_
    rw [wset_push, ← s1']
    refine g_aload_n C dX8_terms_60 rfl ?_
    refine g_iconst C dX8_terms_61 ?_
    refine g_iload_n C dX8_terms_62 rfl ?_
    refine g_aload_n C dX8_terms_63 rfl ?_
    refine g_iconst C dX8_terms_64 ?_
    refine g_ialoadN (0) C wpush_s (by omega) (by omega) dX8_terms_65 ?_
    rw [iup_n (by omega), iup_s]
    refine g_iadd C dX8_terms_66 ?_
    refine g_aload_n C dX8_terms_67 rfl ?_
    refine g_iconst C dX8_terms_68 ?_
    refine g_ialoadN (1) C wpush_s (by omega) (by omega) dX8_terms_69 ?_
    rw [iup_s]
    refine g_idivN C dX8_terms_70 (by omega) (by omega) ?_
    refine g_iastoreN (2) C wpush_s (by omega) (by omega) dX8_terms_71 ?_
    rw [wset_push, ← s2']
    refine g_iinc C dX8_terms_72 rfl (by decide) rfl ?_
    refine g_goto (tgt := 24) C dX8_terms_75 (by decide) ?_
    exact ih (j + 1, iup (iup (iup g 0 pm) 1 pd) 2 pa) ⟨by dsimp only; omega, by dsimp only; rw [hp]; rfl, by dsimp only; rw [hp]; rfl, by dsimp only; rw [hp]; rfl⟩ (by dsimp only; omega)
set_option maxHeartbeats 4000000 in
set_option maxRecDepth 100000 in
theorem c_X8_periodOf (l : Launch) {E : GE} {w : Wd} {b r : Int} (hb : GB b) (hr : RT b r) : Sp E l yX8_periodOf cX8_periodOf 2 (some .int) 2 (16) (48) [iI b] w (fun r1 w' => ∃ p : Nat, r1 = some (iI (p : Int)) ∧ isPer b r p ∧ Ex w w') := by
  refine sp_intro [some (iI b), none] rfl (Nat.le_of_ble_eq_true rfl) pn_X8 ?_
  intro X C hRm hl hnm hQ
  obtain ⟨hRf, hRl, hRc, hRs⟩ := hRm
  refine g_wf (fun hwf => ?_)
  have hb1 := hb.1
  have hb2 := hb.2.1
  have hr9 := RT_le hb hr
  obtain ⟨P0, hP1, hP2, hP3⟩ := per_some hb hr
  refine g_iconst C dX8_periodOf_0 ?_
  refine g_istore_n C dX8_periodOf_1 (by decide) rfl ?_
  refine g_loop (σ := Nat × Wd) (fun q => q.1 + 1 ≤ 16 ∧ Ex w q.2 ∧ ∀ k, 1 ≤ k → k < q.1 + 1 → (cf b r k).2.1 ≠ 1) (fun q => G E X 2 2 [some (iI b), some (iI ((q.1 + 1 : Nat) : Int))] [] q.2 q.1 (3 * q.1)) (fun q => 17 - q.1) ?_ (0, w) ⟨by dsimp only; omega, Ex.rf w, fun k h1 h2 => absurd h2 (by dsimp only; omega)⟩
  rintro ⟨j, u⟩ hq ih
  obtain ⟨hj, hx, hne⟩ := hq
  dsimp only at hj hx hne ⊢
  refine g_wf (fun hwu => ?_)
  have c1 := cf_good hb hr (k := j + 1) (by omega)
  refine g_iload_n C dX8_periodOf_2 rfl ?_
  refine g_iload_n C dX8_periodOf_3 rfl ?_
  refine g_callS C (c_X8_terms _ (b := b) (r := r) (K := j + 1) hb hr (by omega)) ml_RX8_138 sm_yX8_terms in_RX8 co_yX8_terms hd_X8_terms rfl ⟨by omega, by omega⟩ rfl (Nat.le_of_ble_eq_true rfl) ⟨by omega, by omega⟩ dX8_periodOf_4 (fun v4 w4 hp4 => ?_)
  obtain ⟨f4, rfl, rfl, -, e4, -⟩ := hp4
  rw [← e4] at c1
  refine g_iconst C dX8_periodOf_7 ?_
  refine g_ialoadN (1) C wpush_s (by omega) (by omega) dX8_periodOf_8 ?_
  refine g_iconst C dX8_periodOf_9 ?_
  refine g_icmp_eq (tgt := 19) C dX8_periodOf_10 (by decide) (by omega) (by omega) (fun h10 => ?_) (fun h10 => ?_)
  · refine g_iload_n C dX8_periodOf_19 rfl ?_
    exact g_ireturn C hQ dX8_periodOf_20 (by omega) (by omega) ⟨j + 1, rfl, ⟨by omega, hj, by rw [← e4]; exact h10, hne⟩, hx.tr (Ex.push hwu _)⟩
  · have hlt : j + 1 < 16 := by
      rcases Nat.lt_or_ge (j + 1) 16 with q | q
      · exact q
      · rcases Nat.lt_or_ge P0 (j + 1) with q2 | q2
        · exact absurd hP3 (hne P0 hP1 q2)
        · have e : P0 = j + 1 := by omega
          rw [e4, ← e] at h10
          exact absurd hP3 h10
    refine g_iinc C dX8_periodOf_13 rfl (by decide) rfl ?_
    refine g_goto (tgt := 2) C dX8_periodOf_16 (by decide) ?_
    exact ih (j + 1, wpush u (true, eI 3 f4)) ⟨by dsimp only; omega, hx.tr (Ex.push hwu _), fun k k1 k2 => by
      dsimp only at k2
      rcases Nat.lt_or_ge k (j + 1) with q | q
      · exact hne k k1 q
      · rw [show k = j + 1 by omega, ← e4]; exact h10⟩ (by dsimp only; omega)
