def sup (sp : Nat → Nat → Int) (i : Nat) (f : Nat → Int) : Nat → Nat → Int := fun j => if j = i then f else sp j
abbrev MA.setZ (A : MA) (R : Nat → Option Nat) : MA := (A.1, A.2.1, A.2.2.1, A.2.2.2.1, A.2.2.2.2.1, A.2.2.2.2.2.1, A.2.2.2.2.2.2.1, A.2.2.2.2.2.2.2.1, A.2.2.2.2.2.2.2.2.1, R)
theorem FrX.push {w : Wd} {a : Nat} (ha : a < w.1) (e e' : WdE) : FrX w (wset (wpush w e) a e') a := ⟨Nat.le_succ _, fun b hb hba => by rw [wset_n hba, wpush_n (by omega)]⟩
section
variable {τ : Nat → Nat} {w w' : Wd} {m : Nat} {A : MA} {th : Int} {ba st pb le ri : Nat → Int} {sp : Nat → Nat → Int} {ct : Nat → Int}
theorem MSx.frx (h : MSx τ w m A th ba st pb le ri sp ct) (hw : wF w) {i q : Nat} (hi : i < 3) (hq : A.2.2.2.2.2.2.2.2.2 i = some q) (hx : FrX w w' q) {g : Nat → Int} (hg : w'.2 q = some (true, eI 6 g)) : MSx τ w' m A th ba st pb le ri (sup sp i g) ct := by
  have t := h.tg
  obtain ⟨q', a', b', c'⟩ := h.Z hi
  have eq : q' = q := Option.some.inj (a'.symm.trans hq)
  subst eq
  have k : ∀ {a : Nat} {x : WdE}, τ a ≠ 10 + i → w.2 a = some x → w'.2 a = some x := fun {a x} ha hx' => by
    rw [hx.2 a (hw a x hx') (fun e => ha (by rw [e]; exact b'))]; exact hx'
  refine ⟨k (by omega) h.o, t, ⟨k (by omega) h.b, k (by omega) h.s, k (by omega) h.p, k (by omega) h.c⟩, ⟨k (by omega) h.l, k (by omega) h.r, k (by omega) h.z⟩, fun j hj => ?_, fun j hj => ?_, fun j hj => ?_⟩
  · obtain ⟨q, a, b, n, f, c, d⟩ := h.L hj
    exact ⟨q, a, b, n, f, k (by omega) c, d⟩
  · obtain ⟨q, a, b, n, f, c, d⟩ := h.R hj
    exact ⟨q, a, b, n, f, k (by omega) c, d⟩
  · by_cases e : j = i
    · subst e
      exact ⟨q', hq, b', by unfold sup; rw [if_pos rfl]; exact hg⟩
    · obtain ⟨q, a, b, c⟩ := h.Z hj
      exact ⟨q, a, b, by unfold sup; rw [if_neg e]; exact k (by omega) c⟩
theorem MSx.setZ (h : MSx τ w m A th ba st pb le ri sp ct) {i q : Nat} (hi : i < 3) (hq : τ q = 10 + i) {f : Nat → Int} (hf : w.2 q = some (true, eI 6 f)) : MSx τ (wset w A.2.2.2.2.2.1 (true, eR 2 3 (rup A.2.2.2.2.2.2.2.2.2 i (some q)))) m (A.setZ (rup A.2.2.2.2.2.2.2.2.2 i (some q))) th ba st pb le ri (sup sp i f) ct := by
  have t := h.tg
  have k : ∀ a, τ a ≠ 7 → (wset w A.2.2.2.2.2.1 (true, eR 2 3 (rup A.2.2.2.2.2.2.2.2.2 i (some q)))).2 a = w.2 a := fun a ha => wset_n (fun e => ha (by rw [e]; omega))
  refine ⟨(k m (by omega)).trans h.o, t, ⟨(k A.1 (by omega)).trans h.b, (k A.2.1 (by omega)).trans h.s, (k A.2.2.1 (by omega)).trans h.p, (k A.2.2.2.2.2.2.1 (by omega)).trans h.c⟩, ⟨(k A.2.2.2.1 (by omega)).trans h.l, (k A.2.2.2.2.1 (by omega)).trans h.r, wset_s⟩, fun j hj => ?_, fun j hj => ?_, fun j hj => ?_⟩
  · obtain ⟨q, a, b, c⟩ := h.L hj
    exact ⟨q, a, b, c.keep (k q (by omega))⟩
  · obtain ⟨q, a, b, c⟩ := h.R hj
    exact ⟨q, a, b, c.keep (k q (by omega))⟩
  · by_cases e : j = i
    · subst e
      exact ⟨q, rup_s, hq, by unfold sup; rw [if_pos rfl]; exact (k _ (by omega)).trans hf⟩
    · obtain ⟨q', a, b, c⟩ := h.Z hj
      exact ⟨q', (rup_n e).trans a, b, by unfold sup; rw [if_neg e]; exact (k _ (by omega)).trans c⟩
theorem Keep.trT {τ' : Nat → Nat} {u v : Wd} (h : Keep τ w u) (g : Keep τ' u v) (hw : wF w) (e : ∀ a, a < w.1 → τ' a = τ a) : Keep τ w v := ⟨Nat.le_trans h.1 g.1, fun a x t hx => g.2 a x (by rw [e a (hw a x hx)]; exact t) (h.2 a x t hx)⟩
theorem Keep.frx (hx : FrX w w' m) (hw : wF w) (ht : τ m < 100) : Keep τ w w' := ⟨hx.1, fun a x ha e => by rw [hx.2 a (hw a x e) (fun q => by subst q; omega)]; exact e⟩
end
theorem SPb_iff {N : Nat} : SPb N = true ↔ (5 ≤ N ∧ N ≤ 997) ∧ N % 4 = 1 ∧ prB N = true := by
  simp only [SPb, Bool.and_eq_true, decide_eq_true_eq, and_assoc]
def HZp (sp : Nat → Nat → Int) : Prop := ∀ i, i < 3 → ∃ p k, SpR (sp i) p k
/-- what splitNumber tells -/
def szV (f : Nat → Int) (what : Int) : Int := if what = 0 then f 0 else if what = 1 then ((wit (f 0).toNat : Nat) : Int) else if what = 2 then ((ima (f 0).toNat : Nat) : Int) else f (what - 2).toNat
set_option maxHeartbeats 4000000 in
set_option maxRecDepth 100000 in
theorem c_X8_euclid (l : Launch) {E : GE} {w : Wd} {v : Int} (h_v : -2147483648 ≤ v ∧ v < 2147483648) {τ : Nat → Nat} {m : Nat} {A : MA} {th : Int} {ba st pb le ri : Nat → Int} {sp : Nat → Nat → Int} {ct : Nat → Int} (hM : MSx τ w m A th ba st pb le ri sp ct) (hZ : HZp sp) : Sp E l yX8_euclid cX8_euclid 2 (some .int) 2 (1) (6) [.ref m, iI v] w (fun r w' => ∃ (t : Int) (sp' : Nat → Nat → Int) (ct' : Nat → Int) (ans : Int), r = some (iI ans) ∧ MSx τ w' m A (t) (ba) (st) (pb) (le) (ri) (sp') (ct') ∧ Keep τ w w' ∧ (¬ (0 ≤ v ∧ v ≤ 2) ∧ t = 1 ∧ ans = 0 ∧ sp' = sp ∧ ct' = ct ∨ (0 ≤ v ∧ v ≤ 2) ∧ t = 0 ∧ sp v.toNat 2 = 0 ∧ ans = -9 ∧ sp' = sp ∧ ct' = iup ct 3 (ct 3 + 1) ∨ (0 ≤ v ∧ v ≤ 2) ∧ t = 0 ∧ sp v.toNat 2 ≠ 0 ∧ ∃ (p k : Nat) (f : Nat → Int), SpR (sp v.toNat) p k ∧ SpR f p (k + 1) ∧ ans = f 2 ∧ sp' = sup sp v.toNat f ∧ ct' = iup ct 2 (ct 2 + 1))) := by
  refine sp_intro [some (.ref m), some (iI v)] rfl (Nat.le_of_ble_eq_true rfl) pn_X8 ?_
  intro X C hRm hl hnm hQ
  obtain ⟨hRf, hRl, hRc, hRs⟩ := hRm
  refine g_wf (fun hwf => ?_)
  refine g_aload_n C dX8_euclid_0 rfl ?_
  refine g_iload_n C dX8_euclid_1 rfl ?_
  refine g_callS C (c_X8_isNo _ (v := v) h_v) ml_RX8_145 sm_yX8_isNo in_RX8 co_yX8_isNo hd_X8_isNo rfl ⟨by omega, by omega⟩ rfl (Nat.le_of_ble_eq_true rfl) ⟨by omega, by omega⟩ dX8_euclid_2 (fun v2 w2 hp2 => ?_)
  obtain ⟨rfl, hw2⟩ := hp2
  subst w2
  refine g_iconst C dX8_euclid_5 ?_
  refine g_callV C (c_X8_start _ hM (y := bI (¬ (0 ≤ v ∧ v ≤ 2))) (wh := 1) (bI_01 _) (by omega)) (ci := 10) rfl hM.o rfl ml_RX8_149 im_yX8_start se_RX8_yX8_start in_RX8 co_yX8_start hd_X8_start rfl ⟨by omega, by omega⟩ rfl (Nat.le_of_ble_eq_true rfl) ⟨by omega, by omega⟩ dX8_euclid_6 (fun v6 w6 hp6 => ?_)
  obtain ⟨t6, rfl, ht6, hM6, hK6⟩ := hp6
  have hy6 : (bI (¬ (0 ≤ v ∧ v ≤ 2))) = 0 ∨ (bI (¬ (0 ≤ v ∧ v ≤ 2))) = 1 := (bI_01 _)
  refine g_if_eq (tgt := 14) C dX8_euclid_9 (by decide) (bI_r _) (fun h9 => ?_) (fun h9 => ?_)
  · have hwk : 0 ≤ v ∧ v ≤ 2 := Classical.not_not.mp (bI_0 h9)
    obtain ⟨q, hq, tq, eq⟩ := hM6.Z (i := v.toNat) (by omega)
    obtain ⟨p, k, hR⟩ := hZ v.toNat (by omega)
    have hgd := hR.1.good
    have hpp := hR.1.p
    have e2 := hR.2.2.2.1
    refine g_wf (fun hwf6 => ?_)
    have hql := hwf6 q _ eq
    refine g_aload_n C dX8_euclid_14 rfl ?_
    refine g_get (ci := 10) C rfl inTX8 6 (by decide) fl_RX8_35 rfl hM6.o rfl dX8_euclid_15 ?_
    refine g_iload_n C dX8_euclid_18 rfl ?_
    refine g_aaloadN (v.toNat) C rfl rfl hM6.z (by omega) (by omega) hq dX8_euclid_19 ?_
    refine g_iconst C dX8_euclid_20 ?_
    refine g_ialoadN (2) C eq (by omega) (by omega) dX8_euclid_21 ?_
    refine g_if_ne (tgt := 30) C dX8_euclid_22 (by decide) (by omega) (fun h22 => ?_) (fun h22 => ?_)
    · refine g_aload_n C dX8_euclid_30 rfl ?_
      refine g_get (ci := 10) C rfl inTX8 6 (by decide) fl_RX8_35 rfl hM6.o rfl dX8_euclid_31 ?_
      refine g_iload_n C dX8_euclid_34 rfl ?_
      refine g_aaloadN (v.toNat) C rfl rfl hM6.z (by omega) (by omega) hq dX8_euclid_35 ?_
      refine g_callS C (c_X8_step _ eq hR (by rw [← e2]; exact h22)) ml_RX8_260 sm_yX8_step in_RX8 co_yX8_step hd_X8_step rfl ⟨by omega, by omega⟩ rfl (Nat.le_of_ble_eq_true rfl) ⟨by omega, by omega⟩ dX8_euclid_36 (fun v36 w36 hp36 => ?_)
      obtain ⟨rfl, f', g', rfl, hR'⟩ := hp36
      have fx := FrX.push (w := w6) hql (true, eI 6 g') (true, eI 6 f')
      have hM8 := hM6.frx hwf6 (by omega) hq fx wset_s
      refine g_aload_n C dX8_euclid_39 rfl ?_
      refine g_iconst C dX8_euclid_40 ?_
      refine g_aload_n C dX8_euclid_41 rfl ?_
      refine g_get (ci := 10) C rfl inTX8 6 (by decide) fl_RX8_35 rfl hM8.o rfl dX8_euclid_42 ?_
      refine g_iload_n C dX8_euclid_45 rfl ?_
      refine g_aaloadN (v.toNat) C rfl rfl hM8.z (by omega) (by omega) hq dX8_euclid_46 ?_
      refine g_iconst C dX8_euclid_47 ?_
      refine g_ialoadN (2) C wset_s (by omega) (by omega) dX8_euclid_48 ?_
      refine g_callV C (c_X8_done _ hM8 (kd := 2) (to := f' 2) (by omega)) (ci := 10) rfl hM8.o rfl ml_RX8_155 im_yX8_done se_RX8_yX8_done in_RX8 co_yX8_done hd_X8_done rfl ⟨by omega, by omega⟩ rfl (Nat.le_of_ble_eq_true rfl) ⟨by omega, by omega⟩ dX8_euclid_49 (fun v49 w49 hp49 => ?_)
      obtain ⟨rfl, hM9, hK9⟩ := hp49
      exact g_ireturn C hQ dX8_euclid_52 (by omega) (by omega) ⟨t6, _, _, _, rfl, hM9, (hK6.tr (Keep.frx fx hwf6 (by omega))).tr hK9, Or.inr (Or.inr ⟨hwk, by omega, by omega, p, k, f', hR, hR', rfl, rfl, rfl⟩)⟩
    · refine g_aload_n C dX8_euclid_25 rfl ?_
      refine g_callV C (c_X8_cannot _ hM6) (ci := 10) rfl hM6.o rfl ml_RX8_158 im_yX8_cannot se_RX8_yX8_cannot in_RX8 co_yX8_cannot hd_X8_cannot rfl ⟨by omega, by omega⟩ rfl (Nat.le_of_ble_eq_true rfl) ⟨by omega, by omega⟩ dX8_euclid_26 (fun v26 w26 hp26 => ?_)
      obtain ⟨rfl, hM9, hK9⟩ := hp26
      exact g_ireturn C hQ dX8_euclid_29 (by omega) (by omega) ⟨t6, sp, _, -9, rfl, hM9, hK6.tr hK9, Or.inr (Or.inl ⟨hwk, by omega, by omega, rfl, rfl, rfl⟩)⟩
  · refine g_iconst C dX8_euclid_12 ?_
    exact g_ireturn C hQ dX8_euclid_13 (by omega) (by omega) ⟨t6, sp, ct, 0, rfl, hM6, hK6, Or.inl ⟨bI_1 h9, by omega, rfl, rfl, rfl⟩⟩
set_option maxHeartbeats 4000000 in
set_option maxRecDepth 100000 in
theorem c_X8_settle (l : Launch) {E : GE} {w : Wd} {v : Int} (h_v : -2147483648 ≤ v ∧ v < 2147483648) {τ : Nat → Nat} {m : Nat} {A : MA} {th : Int} {ba st pb le ri : Nat → Int} {sp : Nat → Nat → Int} {ct : Nat → Int} (hM : MSx τ w m A th ba st pb le ri sp ct) (hZ : HZp sp) : Sp E l yX8_settle cX8_settle 2 (some .int) 2 (20) (120) [.ref m, iI v] w (fun r w' => ∃ (t : Int) (sp' : Nat → Nat → Int) (ct' : Nat → Int) (ans : Int), r = some (iI ans) ∧ MSx τ w' m A (t) (ba) (st) (pb) (le) (ri) (sp') (ct') ∧ Keep τ w w' ∧ (¬ (0 ≤ v ∧ v ≤ 2) ∧ t = 1 ∧ ans = 0 ∧ sp' = sp ∧ ct' = ct ∨ (0 ≤ v ∧ v ≤ 2) ∧ t = 0 ∧ ∃ (p k j : Nat) (f : Nat → Int), SpR (sp v.toNat) p k ∧ SpR f p (k + j) ∧ (spS p (k + j)).1 * (spS p (k + j)).1 < p ∧ (∀ i, k ≤ i → i < k + j → p ≤ (spS p i).1 * (spS p i).1) ∧ ans = j ∧ sp' = sup sp v.toNat f ∧ ct' = iup ct 2 (ct 2 + 1))) := by
  refine sp_intro [some (.ref m), some (iI v)] rfl (Nat.le_of_ble_eq_true rfl) pn_X8 ?_
  intro X C hRm hl hnm hQ
  obtain ⟨hRf, hRl, hRc, hRs⟩ := hRm
  refine g_wf (fun hwf => ?_)
  refine g_aload_n C dX8_settle_0 rfl ?_
  refine g_iload_n C dX8_settle_1 rfl ?_
  refine g_callS C (c_X8_isNo _ (v := v) h_v) ml_RX8_145 sm_yX8_isNo in_RX8 co_yX8_isNo hd_X8_isNo rfl ⟨by omega, by omega⟩ rfl (Nat.le_of_ble_eq_true rfl) ⟨by omega, by omega⟩ dX8_settle_2 (fun v2 w2 hp2 => ?_)
  obtain ⟨rfl, hw2⟩ := hp2
  subst w2
  refine g_iconst C dX8_settle_5 ?_
  refine g_callV C (c_X8_start _ hM (y := bI (¬ (0 ≤ v ∧ v ≤ 2))) (wh := 1) (bI_01 _) (by omega)) (ci := 10) rfl hM.o rfl ml_RX8_149 im_yX8_start se_RX8_yX8_start in_RX8 co_yX8_start hd_X8_start rfl ⟨by omega, by omega⟩ rfl (Nat.le_of_ble_eq_true rfl) ⟨by omega, by omega⟩ dX8_settle_6 (fun v6 w6 hp6 => ?_)
  obtain ⟨t6, rfl, ht6, hM6, hK6⟩ := hp6
  have hy6 : (bI (¬ (0 ≤ v ∧ v ≤ 2))) = 0 ∨ (bI (¬ (0 ≤ v ∧ v ≤ 2))) = 1 := (bI_01 _)
  refine g_if_eq (tgt := 16) C dX8_settle_9 (by decide) (bI_r _) (fun h9 => ?_) (fun h9 => ?_)
  · have hwk : 0 ≤ v ∧ v ≤ 2 := Classical.not_not.mp (bI_0 h9)
    obtain ⟨q, hq, tq, eq⟩ := hM6.Z (i := v.toNat) (by omega)
    obtain ⟨p, k, hR⟩ := hZ v.toNat (by omega)
    refine g_wf (fun hwf6 => ?_)
    refine g_aload_n C dX8_settle_16 rfl ?_
    refine g_iconst C dX8_settle_17 ?_
    refine g_aload_n C dX8_settle_18 rfl ?_
    refine g_get (ci := 10) C rfl inTX8 6 (by decide) fl_RX8_35 rfl hM6.o rfl dX8_settle_19 ?_
    refine g_iload_n C dX8_settle_22 rfl ?_
    refine g_aaloadN (v.toNat) C rfl rfl hM6.z (by omega) (by omega) hq dX8_settle_23 ?_
    refine g_callS C (c_X8_settled _ eq hR) ml_RX8_267 sm_yX8_settled in_RX8 co_yX8_settled hd_X8_settled rfl ⟨by omega, by omega⟩ rfl (Nat.le_of_ble_eq_true rfl) ⟨by omega, by omega⟩ dX8_settle_24 (fun v24 w24 hp24 => ?_)
    obtain ⟨j, g, rfl, hg, hRg, fx, hlt, hall⟩ := hp24
    have hM8 := hM6.frx hwf6 (by omega) hq fx hg
    refine g_callV C (c_X8_done _ hM8 (kd := 2) (to := (j : Int)) (by omega)) (ci := 10) rfl hM8.o rfl ml_RX8_155 im_yX8_done se_RX8_yX8_done in_RX8 co_yX8_done hd_X8_done rfl ⟨by omega, by omega⟩ rfl (Nat.le_of_ble_eq_true rfl) ⟨by omega, by omega⟩ dX8_settle_27 (fun v27 w27 hp27 => ?_)
    obtain ⟨rfl, hM9, hK9⟩ := hp27
    exact g_ireturn C hQ dX8_settle_30 (by omega) (by omega) (by
      first
      | exact ⟨t6, sp, ct, 0, rfl, hM6, hK6, Or.inl ⟨bI_1 h9, by omega, rfl, rfl, rfl⟩⟩
      | exact ⟨t6, _, _, _, rfl, hM9, (hK6.tr (Keep.frx fx hwf6 (by omega))).tr hK9, Or.inr ⟨hwk, by omega, p, k, j, g, hR, hRg, hlt, hall, rfl, rfl, rfl⟩⟩)
  · refine g_iconst C dX8_settle_12 ?_
    refine g_goto (tgt := 30) C dX8_settle_13 (by decide) ?_
    exact g_ireturn C hQ dX8_settle_30 (by omega) (by omega) (by
      first
      | exact ⟨t6, sp, ct, 0, rfl, hM6, hK6, Or.inl ⟨bI_1 h9, by omega, rfl, rfl, rfl⟩⟩
      | exact ⟨t6, _, _, _, rfl, hM9, (hK6.tr (Keep.frx fx hwf6 (by omega))).tr hK9, Or.inr ⟨hwk, by omega, p, k, j, g, hR, hRg, hlt, hall, rfl, rfl, rfl⟩⟩)
set_option maxHeartbeats 4000000 in
set_option maxRecDepth 100000 in
theorem c_X8_splitOf (l : Launch) {E : GE} {w : Wd} {τ : Nat → Nat} {m : Nat} {A : MA} {th : Int} {ba st pb le ri : Nat → Int} {sp : Nat → Nat → Int} {ct : Nat → Int} (hM : MSx τ w m A th ba st pb le ri sp ct) {i p k : Nat} {what : Int} (hi : i < 3) (hw : 0 ≤ what ∧ what ≤ 7) (hR : SpR (sp i) p k) : Sp E l yX8_splitOf cX8_splitOf 4 (some .int) 3 (0) (0) [.ref m, iI (i : Int), iI what] w (fun r w' => r = some (iI (szV (sp i) what)) ∧ w' = w) := by
  refine sp_intro [some (.ref m), some (iI (i : Int)), some (iI what), none] rfl (Nat.le_of_ble_eq_true rfl) pn_X8 ?_
  intro X C hRm hl hnm hQ
  obtain ⟨hRf, hRl, hRc, hRs⟩ := hRm
  refine g_wf (fun hwf => ?_)
  obtain ⟨q, hq, tq, eq⟩ := hM.Z hi
  have hV := hR.1
  have e0 := hR.2.1
  have hpp := hV.p
  have e0n : (sp i 0).toNat = p := by omega
  refine g_aload_n C dX8_splitOf_0 rfl ?_
  refine g_get (ci := 10) C rfl inTX8 6 (by decide) fl_RX8_35 rfl hM.o rfl dX8_splitOf_1 ?_
  refine g_iload_n C dX8_splitOf_4 rfl ?_
  refine g_aaloadN (i) C rfl rfl hM.z (by omega) (by omega) hq dX8_splitOf_5 ?_
  refine g_astore_n C dX8_splitOf_6 (by decide) rfl ?_
  refine g_iload_n C dX8_splitOf_7 rfl ?_
  refine g_if_ne (tgt := 17) C dX8_splitOf_8 (by decide) (by omega) (fun h8 => ?_) (fun h8 => ?_)
  · refine g_iload_n C dX8_splitOf_17 rfl ?_
    refine g_iconst C dX8_splitOf_18 ?_
    refine g_icmp_ne (tgt := 31) C dX8_splitOf_19 (by decide) (by omega) (by omega) (fun h19 => ?_) (fun h19 => ?_)
    · refine g_iload_n C dX8_splitOf_31 rfl ?_
      refine g_iconst C dX8_splitOf_32 ?_
      refine g_icmp_ne (tgt := 45) C dX8_splitOf_33 (by decide) (by omega) (by omega) (fun h33 => ?_) (fun h33 => ?_)
      · refine g_aload_n C dX8_splitOf_45 rfl ?_
        refine g_iload_n C dX8_splitOf_46 rfl ?_
        refine g_iconst C dX8_splitOf_47 ?_
        refine g_isub C dX8_splitOf_48 ?_
        refine g_ialoadN ((what - 2).toNat) C eq (by omega) (by omega) dX8_splitOf_49 ?_
        exact g_ireturn C hQ dX8_splitOf_50 (Nat.le_refl _) (Nat.le_refl _) ⟨by unfold szV; first | rw [if_pos (by omega)] | rw [if_neg (by omega), if_pos (by omega), e0n] | rw [if_neg (by omega), if_neg (by omega), if_pos (by omega), e0n] | rw [if_neg (by omega), if_neg (by omega), if_neg (by omega)], rfl⟩
      · refine g_aload_n C dX8_splitOf_36 rfl ?_
        refine g_iconst C dX8_splitOf_37 ?_
        refine g_ialoadN (0) C eq (by omega) (by omega) dX8_splitOf_38 ?_
        rw [e0]
        refine g_callS C (c_X8_imaginary _ hV.1) ml_RX8_257 sm_yX8_imaginary in_RX8 co_yX8_imaginary hd_X8_imaginary rfl ⟨by omega, by omega⟩ rfl (Nat.le_of_ble_eq_true rfl) ⟨by omega, by omega⟩ dX8_splitOf_39 (fun v39 w39 hp39 => ?_)
        obtain ⟨rfl, hw39⟩ := hp39
        subst w39
        refine g_goto (tgt := 50) C dX8_splitOf_42 (by decide) ?_
        exact g_ireturn C hQ dX8_splitOf_50 (Nat.le_refl _) (Nat.le_refl _) ⟨by unfold szV; first | rw [if_pos (by omega)] | rw [if_neg (by omega), if_pos (by omega), e0n] | rw [if_neg (by omega), if_neg (by omega), if_pos (by omega), e0n] | rw [if_neg (by omega), if_neg (by omega), if_neg (by omega)], rfl⟩
    · refine g_aload_n C dX8_splitOf_22 rfl ?_
      refine g_iconst C dX8_splitOf_23 ?_
      refine g_ialoadN (0) C eq (by omega) (by omega) dX8_splitOf_24 ?_
      rw [e0]
      refine g_callS C (c_X8_witness _ hV.1) ml_RX8_254 sm_yX8_witness in_RX8 co_yX8_witness hd_X8_witness rfl ⟨by omega, by omega⟩ rfl (Nat.le_of_ble_eq_true rfl) ⟨by omega, by omega⟩ dX8_splitOf_25 (fun v25 w25 hp25 => ?_)
      obtain ⟨rfl, hw25⟩ := hp25
      subst w25
      refine g_goto (tgt := 50) C dX8_splitOf_28 (by decide) ?_
      exact g_ireturn C hQ dX8_splitOf_50 (Nat.le_refl _) (Nat.le_refl _) ⟨by unfold szV; first | rw [if_pos (by omega)] | rw [if_neg (by omega), if_pos (by omega), e0n] | rw [if_neg (by omega), if_neg (by omega), if_pos (by omega), e0n] | rw [if_neg (by omega), if_neg (by omega), if_neg (by omega)], rfl⟩
  · refine g_aload_n C dX8_splitOf_11 rfl ?_
    refine g_iconst C dX8_splitOf_12 ?_
    refine g_ialoadN (0) C eq (by omega) (by omega) dX8_splitOf_13 ?_
    refine g_goto (tgt := 50) C dX8_splitOf_14 (by decide) ?_
    exact g_ireturn C hQ dX8_splitOf_50 (Nat.le_refl _) (Nat.le_refl _) ⟨by unfold szV; first | rw [if_pos (by omega)] | rw [if_neg (by omega), if_pos (by omega), e0n] | rw [if_neg (by omega), if_neg (by omega), if_pos (by omega), e0n] | rw [if_neg (by omega), if_neg (by omega), if_neg (by omega)], rfl⟩
set_option maxHeartbeats 4000000 in
set_option maxRecDepth 100000 in
theorem c_X8_splitNumber (l : Launch) {E : GE} {w : Wd} {v what : Int} (h_v : -2147483648 ≤ v ∧ v < 2147483648) (h_what : -2147483648 ≤ what ∧ what < 2147483648) {τ : Nat → Nat} {m : Nat} {A : MA} {th : Int} {ba st pb le ri : Nat → Int} {sp : Nat → Nat → Int} {ct : Nat → Int} (hM : MSx τ w m A th ba st pb le ri sp ct) (hZ : HZp sp) : Sp E l yX8_splitNumber cX8_splitNumber 3 (some .int) 4 (0) (0) [.ref m, iI v, iI what] w (fun r w' => ∃ (t : Int) (ans : Int), r = some (iI ans) ∧ MSx τ w' m A (t) (ba) (st) (pb) (le) (ri) (sp) (ct) ∧ Keep τ w w' ∧ (¬ (0 ≤ v ∧ v ≤ 2) ∧ t = 1 ∧ ans = 0 ∨ (0 ≤ v ∧ v ≤ 2) ∧ ¬ (0 ≤ what ∧ what ≤ 7) ∧ t = 2 ∧ ans = 0 ∨ (0 ≤ v ∧ v ≤ 2) ∧ (0 ≤ what ∧ what ≤ 7) ∧ t = 0 ∧ ans = szV (sp v.toNat) what)) := by
  refine sp_intro [some (.ref m), some (iI v), some (iI what)] rfl (Nat.le_of_ble_eq_true rfl) pn_X8 ?_
  intro X C hRm hl hnm hQ
  obtain ⟨hRf, hRl, hRc, hRs⟩ := hRm
  refine g_wf (fun hwf => ?_)
  refine g_aload_n C dX8_splitNumber_0 rfl ?_
  refine g_iload_n C dX8_splitNumber_1 rfl ?_
  refine g_callS C (c_X8_isNo _ (v := v) h_v) ml_RX8_145 sm_yX8_isNo in_RX8 co_yX8_isNo hd_X8_isNo rfl ⟨by omega, by omega⟩ rfl (Nat.le_of_ble_eq_true rfl) ⟨by omega, by omega⟩ dX8_splitNumber_2 (fun v2 w2 hp2 => ?_)
  obtain ⟨rfl, hw2⟩ := hp2
  subst w2
  refine g_iconst C dX8_splitNumber_5 ?_
  refine g_callV C (c_X8_start _ hM (y := bI (¬ (0 ≤ v ∧ v ≤ 2))) (wh := 1) (bI_01 _) (by omega)) (ci := 10) rfl hM.o rfl ml_RX8_149 im_yX8_start se_RX8_yX8_start in_RX8 co_yX8_start hd_X8_start rfl ⟨by omega, by omega⟩ rfl (Nat.le_of_ble_eq_true rfl) ⟨by omega, by omega⟩ dX8_splitNumber_6 (fun v6 w6 hp6 => ?_)
  obtain ⟨t6, rfl, ht6, hM6, hK6⟩ := hp6
  have hy6 : (bI (¬ (0 ≤ v ∧ v ≤ 2))) = 0 ∨ (bI (¬ (0 ≤ v ∧ v ≤ 2))) = 1 := (bI_01 _)
  refine g_if_ne (tgt := 35) C dX8_splitNumber_9 (by decide) (bI_r _) (fun h9 => ?_) (fun h9 => ?_)
  · refine g_iconst C dX8_splitNumber_35 ?_
    refine g_goto (tgt := 45) C dX8_splitNumber_36 (by decide) ?_
    exact g_ireturn C hQ dX8_splitNumber_45 (Nat.le_refl _) (Nat.le_refl _) (by
      first
      | exact ⟨t, _, rfl, hM7, hK67, Or.inr (Or.inr ⟨hwk, by omega, by omega, rfl⟩)⟩
      | exact ⟨t, 0, rfl, hM7, hK67, Or.inr (Or.inl ⟨hwk, by have := bI_1 h32; omega, by have := bI_1 h32; omega, rfl⟩)⟩
      | exact ⟨t6, 0, rfl, hM6, hK6, Or.inl ⟨bI_1 h9, by omega, rfl⟩⟩)
  · refine g_aload_n C dX8_splitNumber_12 rfl ?_
    refine g_iload_n C dX8_splitNumber_13 rfl ?_
    refine g_iconst C dX8_splitNumber_14 ?_
    refine g_bipush C dX8_splitNumber_15 (by decide) ?_
    refine g_callS C (c_X8_isIn _ (v := what) (a := 0) (b := 7) h_what (by omega) (by omega)) ml_RX8_49 sm_yX8_isIn in_RX8 co_yX8_isIn hd_X8_isIn rfl ⟨by omega, by omega⟩ rfl (Nat.le_of_ble_eq_true rfl) ⟨by omega, by omega⟩ dX8_splitNumber_17 (fun v17 w17 hp17 => ?_)
    obtain ⟨rfl, hw17⟩ := hp17
    subst w17
    have J28 : ∀ y : Int, (y = 0 ∧ (0 ≤ what ∧ what ≤ 7) ∨ y = 1 ∧ ¬ (0 ≤ what ∧ what ≤ 7)) → G E X 3 28 [some (.ref m), some (iI v), some (iI what)] [iI y, .ref m] w6 0 0 := by
      intro y hy
      have hwk : 0 ≤ v ∧ v ≤ 2 := Classical.not_not.mp (bI_0 (Classical.not_not.mp h9))
      refine g_iconst C dX8_splitNumber_28 ?_
      refine g_callV C (c_X8_refuse _ hM6 (y := y) (wh := 2) (by omega) (by omega) (by omega)) (ci := 10) rfl hM6.o rfl ml_RX8_45 im_yX8_refuse se_RX8_yX8_refuse in_RX8 co_yX8_refuse hd_X8_refuse rfl ⟨by omega, by omega⟩ rfl (Nat.le_of_ble_eq_true rfl) ⟨by omega, by omega⟩ dX8_splitNumber_29 (fun v29 w29 hp29 => ?_)
      obtain ⟨t, rfl, ht, hM7, hK7⟩ := hp29
      have hy7 : (y) = 0 ∨ (y) = 1 := (by omega)
      have hK67 := hK6.tr hK7
      refine g_if_eq (tgt := 39) C dX8_splitNumber_32 (by decide) (bI_r _) (fun h32 => ?_) (fun h32 => ?_)
      · have htz : ¬ (0 < t) := bI_0 h32
        obtain ⟨p, k, hR⟩ := hZ v.toNat (by omega)
        refine g_eq (L' := [some (.ref m), some (iI ((v.toNat : Nat) : Int)), some (iI what)]) (by rw [show ((v.toNat : Nat) : Int) = v by omega]) rfl ?_
        refine g_aload_n C dX8_splitNumber_39 rfl ?_
        refine g_iload_n C dX8_splitNumber_40 rfl ?_
        refine g_iload_n C dX8_splitNumber_41 rfl ?_
        refine g_callV C (c_X8_splitOf _ hM7 (i := v.toNat) (what := what) (by omega) (by omega) hR) (ci := 10) rfl hM7.o rfl ml_RX8_271 im_yX8_splitOf se_RX8_yX8_splitOf in_RX8 co_yX8_splitOf hd_X8_splitOf rfl ⟨by omega, by omega⟩ rfl (Nat.le_of_ble_eq_true rfl) ⟨by omega, by omega⟩ dX8_splitNumber_42 (fun v42 w42 hp42 => ?_)
        obtain ⟨rfl, hw42⟩ := hp42
        subst w42
        exact g_ireturn C hQ dX8_splitNumber_45 (Nat.le_refl _) (Nat.le_refl _) (by
          first
          | exact ⟨t, _, rfl, hM7, hK67, Or.inr (Or.inr ⟨hwk, by omega, by omega, rfl⟩)⟩
          | exact ⟨t, 0, rfl, hM7, hK67, Or.inr (Or.inl ⟨hwk, by have := bI_1 h32; omega, by have := bI_1 h32; omega, rfl⟩)⟩
          | exact ⟨t6, 0, rfl, hM6, hK6, Or.inl ⟨bI_1 h9, by omega, rfl⟩⟩)
      · refine g_iconst C dX8_splitNumber_35 ?_
        refine g_goto (tgt := 45) C dX8_splitNumber_36 (by decide) ?_
        exact g_ireturn C hQ dX8_splitNumber_45 (Nat.le_refl _) (Nat.le_refl _) (by
          first
          | exact ⟨t, _, rfl, hM7, hK67, Or.inr (Or.inr ⟨hwk, by omega, by omega, rfl⟩)⟩
          | exact ⟨t, 0, rfl, hM7, hK67, Or.inr (Or.inl ⟨hwk, by have := bI_1 h32; omega, by have := bI_1 h32; omega, rfl⟩)⟩
          | exact ⟨t6, 0, rfl, hM6, hK6, Or.inl ⟨bI_1 h9, by omega, rfl⟩⟩)
    refine g_if_ne (tgt := 27) C dX8_splitNumber_20 (by decide) (bI_r _) (fun h20 => ?_) (fun h20 => ?_)
    · refine g_iconst C dX8_splitNumber_27 ?_
      exact J28 _ (by first | exact Or.inl ⟨rfl, bI_1 h20⟩ | exact Or.inr ⟨rfl, bI_0 (Classical.not_not.mp h20)⟩)
    · refine g_iconst C dX8_splitNumber_23 ?_
      refine g_goto (tgt := 28) C dX8_splitNumber_24 (by decide) ?_
      exact J28 _ (by first | exact Or.inl ⟨rfl, bI_1 h20⟩ | exact Or.inr ⟨rfl, bI_0 (Classical.not_not.mp h20)⟩)
set_option maxHeartbeats 4000000 in
set_option maxRecDepth 100000 in
theorem c_X8_split (l : Launch) {E : GE} {w : Wd} {v num : Int} (h_v : -2147483648 ≤ v ∧ v < 2147483648) (h_num : -2147483648 ≤ num ∧ num < 2147483648) {τ : Nat → Nat} {m : Nat} {A : MA} {th : Int} {ba st pb le ri : Nat → Int} {sp : Nat → Nat → Int} {ct : Nat → Int} (hM : MSx τ w m A th ba st pb le ri sp ct) (hZ : HZp sp) : Sp E l yX8_split cX8_split 3 (some .int) 4 (1) (6) [.ref m, iI v, iI num] w (fun r w' => ∃ (τ' : Nat → Nat) (A' : MA) (t : Int) (sp' : Nat → Nat → Int) (ct' : Nat → Int) (ans : Int), (∀ a, a < w.1 → τ' a = τ a) ∧ r = some (iI ans) ∧ MSx τ' w' m A' (t) (ba) (st) (pb) (le) (ri) (sp') (ct') ∧ Keep τ w w' ∧ (¬ (0 ≤ v ∧ v ≤ 2) ∧ t = 1 ∧ ans = 0 ∧ sp' = sp ∧ ct' = ct ∨ (0 ≤ v ∧ v ≤ 2) ∧ ¬ (5 ≤ num ∧ num ≤ 997) ∧ t = 2 ∧ ans = 0 ∧ sp' = sp ∧ ct' = ct ∨ (0 ≤ v ∧ v ≤ 2) ∧ (5 ≤ num ∧ num ≤ 997) ∧ t = 0 ∧ ¬ (SPb num.toNat = true) ∧ ans = -9 ∧ sp' = sp ∧ ct' = iup ct 3 (ct 3 + 1) ∨ (0 ≤ v ∧ v ≤ 2) ∧ (5 ≤ num ∧ num ≤ 997) ∧ t = 0 ∧ SPb num.toNat = true ∧ ∃ f : Nat → Int, SpR f num.toNat 0 ∧ ans = ((wit num.toNat : Nat) : Int) ∧ sp' = sup sp v.toNat f ∧ ct' = iup ct 2 (ct 2 + 1))) := by
  refine sp_intro [some (.ref m), some (iI v), some (iI num)] rfl (Nat.le_of_ble_eq_true rfl) pn_X8 ?_
  intro X C hRm hl hnm hQ
  obtain ⟨hRf, hRl, hRc, hRs⟩ := hRm
  refine g_wf (fun hwf => ?_)
  refine g_aload_n C dX8_split_0 rfl ?_
  refine g_iload_n C dX8_split_1 rfl ?_
  refine g_callS C (c_X8_isNo _ (v := v) h_v) ml_RX8_145 sm_yX8_isNo in_RX8 co_yX8_isNo hd_X8_isNo rfl ⟨by omega, by omega⟩ rfl (Nat.le_of_ble_eq_true rfl) ⟨by omega, by omega⟩ dX8_split_2 (fun v2 w2 hp2 => ?_)
  obtain ⟨rfl, hw2⟩ := hp2
  subst w2
  refine g_iconst C dX8_split_5 ?_
  refine g_callV C (c_X8_start _ hM (y := bI (¬ (0 ≤ v ∧ v ≤ 2))) (wh := 1) (bI_01 _) (by omega)) (ci := 10) rfl hM.o rfl ml_RX8_149 im_yX8_start se_RX8_yX8_start in_RX8 co_yX8_start hd_X8_start rfl ⟨by omega, by omega⟩ rfl (Nat.le_of_ble_eq_true rfl) ⟨by omega, by omega⟩ dX8_split_6 (fun v6 w6 hp6 => ?_)
  obtain ⟨t6, rfl, ht6, hM6, hK6⟩ := hp6
  have hy6 : (bI (¬ (0 ≤ v ∧ v ≤ 2))) = 0 ∨ (bI (¬ (0 ≤ v ∧ v ≤ 2))) = 1 := (bI_01 _)
  refine g_if_ne (tgt := 36) C dX8_split_9 (by decide) (bI_r _) (fun h9 => ?_) (fun h9 => ?_)
  · refine g_iconst C dX8_split_36 ?_
    exact g_ireturn C hQ dX8_split_37 (by omega) (by omega) (by
      first
      | exact ⟨τ, A, t, sp, ct, 0, fun _ _ => rfl, rfl, hM7, hK67, Or.inr (Or.inl ⟨hwk, by have := bI_1 h33; omega, by have := bI_1 h33; omega, rfl, rfl, rfl⟩)⟩
      | exact ⟨τ, A, t6, sp, ct, 0, fun _ _ => rfl, rfl, hM6, hK6, Or.inl ⟨bI_1 h9, by omega, rfl, rfl, rfl⟩⟩)
  · refine g_aload_n C dX8_split_12 rfl ?_
    refine g_iload_n C dX8_split_13 rfl ?_
    refine g_iconst C dX8_split_14 ?_
    refine g_sipush C dX8_split_15 (by decide) ?_
    refine g_callS C (c_X8_isIn _ (v := num) (a := 5) (b := 997) h_num (by omega) (by omega)) ml_RX8_49 sm_yX8_isIn in_RX8 co_yX8_isIn hd_X8_isIn rfl ⟨by omega, by omega⟩ rfl (Nat.le_of_ble_eq_true rfl) ⟨by omega, by omega⟩ dX8_split_18 (fun v18 w18 hp18 => ?_)
    obtain ⟨rfl, hw18⟩ := hp18
    subst w18
    have J29 : ∀ y : Int, (y = 0 ∧ (5 ≤ num ∧ num ≤ 997) ∨ y = 1 ∧ ¬ (5 ≤ num ∧ num ≤ 997)) → G E X 3 29 [some (.ref m), some (iI v), some (iI num)] [iI y, .ref m] w6 0 0 := by
      intro y hy
      have hwk : 0 ≤ v ∧ v ≤ 2 := Classical.not_not.mp (bI_0 (Classical.not_not.mp h9))
      refine g_iconst C dX8_split_29 ?_
      refine g_callV C (c_X8_refuse _ hM6 (y := y) (wh := 2) (by omega) (by omega) (by omega)) (ci := 10) rfl hM6.o rfl ml_RX8_45 im_yX8_refuse se_RX8_yX8_refuse in_RX8 co_yX8_refuse hd_X8_refuse rfl ⟨by omega, by omega⟩ rfl (Nat.le_of_ble_eq_true rfl) ⟨by omega, by omega⟩ dX8_split_30 (fun v30 w30 hp30 => ?_)
      obtain ⟨t, rfl, ht, hM7, hK7⟩ := hp30
      have hy7 : (y) = 0 ∨ (y) = 1 := (by omega)
      have hK67 := hK6.tr hK7
      refine g_if_eq (tgt := 38) C dX8_split_33 (by decide) (bI_r _) (fun h33 => ?_) (fun h33 => ?_)
      · have htz : ¬ (0 < t) := bI_0 h33
        have hnr : 5 ≤ num ∧ num ≤ 997 := by omega
        obtain ⟨N, rfl⟩ := Int.eq_ofNat_of_zero_le (show 0 ≤ num by omega)
        refine g_iload_n C dX8_split_38 rfl ?_
        refine g_iconst C dX8_split_39 ?_
        refine g_iremN C dX8_split_40 (by omega) (by omega) ?_
        refine g_iconst C dX8_split_41 ?_
        refine g_icmp_ne (tgt := 52) C dX8_split_42 (by decide) (by omega) (by omega) (fun h42 => ?_) (fun h42 => ?_)
        · refine g_aload_n C dX8_split_52 rfl ?_
          refine g_callV C (c_X8_cannot _ hM7) (ci := 10) rfl hM7.o rfl ml_RX8_158 im_yX8_cannot se_RX8_yX8_cannot in_RX8 co_yX8_cannot hd_X8_cannot rfl ⟨by omega, by omega⟩ rfl (Nat.le_of_ble_eq_true rfl) ⟨by omega, by omega⟩ dX8_split_53 (fun v53 w53 hp53 => ?_)
          obtain ⟨rfl, hM9, hK9⟩ := hp53
          exact g_ireturn C hQ dX8_split_56 (by omega) (by omega) ⟨τ, A, t, sp, _, -9, fun _ _ => rfl, rfl, hM9, hK67.tr hK9, Or.inr (Or.inr (Or.inl ⟨hwk, by omega, by omega, by rw [Int.toNat_natCast, SPb_iff]; rintro ⟨_, q1, q2⟩; first | omega | (rcases hz with z1 | z1; omega; exact z1.2 ⟨by omega, q2⟩), rfl, rfl, rfl⟩))⟩
        · refine g_iload_n C dX8_split_45 rfl ?_
          refine g_callS C (c_X8_isNumberPrime _ (N := N) (by omega)) ml_RX8_264 sm_yX8_isNumberPrime in_RX8 co_yX8_isNumberPrime hd_X8_isNumberPrime rfl ⟨by omega, by omega⟩ rfl (Nat.le_of_ble_eq_true rfl) ⟨by omega, by omega⟩ dX8_split_46 (fun v46 w46 hp46 => ?_)
          obtain ⟨⟨z, rfl, hz⟩, hw46⟩ := hp46
          subst w46
          refine g_if_ne (tgt := 57) C dX8_split_49 (by decide) (by omega) (fun h49 => ?_) (fun h49 => ?_)
          · have hS : SPb N = true := by
              rw [SPb_iff]
              rcases hz with z1 | z1
              · exact ⟨by omega, by omega, z1.2.2⟩
              · omega
            have hwk2 : v.toNat < 3 := by omega
            obtain ⟨q, hq, tq, eq⟩ := hM7.Z hwk2
            refine g_wf (fun hwf7 => ?_)
            refine g_aload_n C dX8_split_57 rfl ?_
            refine g_get (ci := 10) C rfl inTX8 6 (by decide) fl_RX8_35 rfl hM7.o rfl dX8_split_58 ?_
            refine g_iload_n C dX8_split_61 rfl ?_
            refine g_iload_n C dX8_split_62 rfl ?_
            refine g_callS C (c_X8_begun _ hS) ml_RX8_31 sm_yX8_begun in_RX8 co_yX8_begun hd_X8_begun rfl ⟨by omega, by omega⟩ rfl (Nat.le_of_ble_eq_true rfl) ⟨by omega, by omega⟩ dX8_split_63 (fun v63 w63 hp63 => ?_)
            obtain ⟨f, rfl, rfl, hRf⟩ := hp63
            obtain ⟨τ', hτ'⟩ : ∃ τ' : Nat → Nat, τ' = fun a => if a = w30.1 then 10 + v.toNat else τ a := ⟨_, rfl⟩
            have hτ1 : ∀ a, a < w30.1 → τ' a = τ a := fun a ha => by rw [hτ']; exact if_neg (by omega)
            have hτ2 : τ' w30.1 = 10 + v.toNat := by rw [hτ']; exact if_pos rfl
            have hM8 := (hM7.tag hwf7 hτ1).ex (Ex.push hwf7 (true, eI 6 f))
            have hM81 := hM8.setZ hwk2 hτ2 wpush_s
            refine g_aastoreI C v.toNat hM8.z wpush_s (by omega) (by omega) dX8_split_66 ?_
            refine g_aload_n C dX8_split_67 rfl ?_
            refine g_iconst C dX8_split_68 ?_
            refine g_iload_n C dX8_split_69 rfl ?_
            refine g_callS C (c_X8_witness _ hS) ml_RX8_254 sm_yX8_witness in_RX8 co_yX8_witness hd_X8_witness rfl ⟨by omega, by omega⟩ rfl (Nat.le_of_ble_eq_true rfl) ⟨by omega, by omega⟩ dX8_split_70 (fun v70 w70 hp70 => ?_)
            obtain ⟨rfl, hw70⟩ := hp70
            subst w70
            refine g_callV C (c_X8_done _ hM81 (kd := 2) (to := ((wit N : Nat) : Int)) (by omega)) (ci := 10) rfl hM81.o rfl ml_RX8_155 im_yX8_done se_RX8_yX8_done in_RX8 co_yX8_done hd_X8_done rfl ⟨by omega, by omega⟩ rfl (Nat.le_of_ble_eq_true rfl) ⟨by omega, by omega⟩ dX8_split_73 (fun v73 w73 hp73 => ?_)
            obtain ⟨rfl, hM9, hK9⟩ := hp73
            exact g_ireturn C hQ dX8_split_76 (by omega) (by omega) ⟨τ', _, t, _, _, _, fun a ha => hτ1 a (by have := hK67.1; omega), rfl, hM9, (hK67.tr ((Keep.ex (Ex.push hwf7 (true, eI 6 f))).tr (Keep.set _ (by have := hM7.tg; omega)))).trT hK9 hwf (fun a ha => hτ1 a (by have := hK67.1; omega)), Or.inr (Or.inr (Or.inr ⟨hwk, by omega, by omega, by rw [Int.toNat_natCast]; exact hS, f, by rw [Int.toNat_natCast]; exact hRf, by rw [Int.toNat_natCast], rfl, rfl⟩))⟩
          · refine g_aload_n C dX8_split_52 rfl ?_
            refine g_callV C (c_X8_cannot _ hM7) (ci := 10) rfl hM7.o rfl ml_RX8_158 im_yX8_cannot se_RX8_yX8_cannot in_RX8 co_yX8_cannot hd_X8_cannot rfl ⟨by omega, by omega⟩ rfl (Nat.le_of_ble_eq_true rfl) ⟨by omega, by omega⟩ dX8_split_53 (fun v53 w53 hp53 => ?_)
            obtain ⟨rfl, hM9, hK9⟩ := hp53
            exact g_ireturn C hQ dX8_split_56 (by omega) (by omega) ⟨τ, A, t, sp, _, -9, fun _ _ => rfl, rfl, hM9, hK67.tr hK9, Or.inr (Or.inr (Or.inl ⟨hwk, by omega, by omega, by rw [Int.toNat_natCast, SPb_iff]; rintro ⟨_, q1, q2⟩; first | omega | (rcases hz with z1 | z1; omega; exact z1.2 ⟨by omega, q2⟩), rfl, rfl, rfl⟩))⟩
      · refine g_iconst C dX8_split_36 ?_
        exact g_ireturn C hQ dX8_split_37 (by omega) (by omega) (by
          first
          | exact ⟨τ, A, t, sp, ct, 0, fun _ _ => rfl, rfl, hM7, hK67, Or.inr (Or.inl ⟨hwk, by have := bI_1 h33; omega, by have := bI_1 h33; omega, rfl, rfl, rfl⟩)⟩
          | exact ⟨τ, A, t6, sp, ct, 0, fun _ _ => rfl, rfl, hM6, hK6, Or.inl ⟨bI_1 h9, by omega, rfl, rfl, rfl⟩⟩)
    refine g_if_ne (tgt := 28) C dX8_split_21 (by decide) (bI_r _) (fun h21 => ?_) (fun h21 => ?_)
    · refine g_iconst C dX8_split_28 ?_
      exact J29 _ (by first | exact Or.inl ⟨rfl, bI_1 h21⟩ | exact Or.inr ⟨rfl, bI_0 (Classical.not_not.mp h21)⟩)
    · refine g_iconst C dX8_split_24 ?_
      refine g_goto (tgt := 29) C dX8_split_25 (by decide) ?_
      exact J29 _ (by first | exact Or.inl ⟨rfl, bI_1 h21⟩ | exact Or.inr ⟨rfl, bI_0 (Classical.not_not.mp h21)⟩)
