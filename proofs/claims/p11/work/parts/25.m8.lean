/-! the model's object in a world; tags of addresses keep things apart -/
abbrev MA : Type := Nat × Nat × Nat × Nat × Nat × Nat × Nat × (Nat → Option Nat) × (Nat → Option Nat) × (Nat → Option Nat)
def MSx (τ : Nat → Nat) (w : Wd) (m : Nat) (A : MA) (th : Int) (ba st pb le ri : Nat → Int) (sp : Nat → Nat → Int) (ct : Nat → Int) : Prop :=
  w.2 m = some (true, eO 10 [iI th, .ref A.1, .ref A.2.1, .ref A.2.2.1, .ref A.2.2.2.1, .ref A.2.2.2.2.1, .ref A.2.2.2.2.2.1, .ref A.2.2.2.2.2.2.1]) ∧
  (τ m = 1 ∧ τ A.1 = 2 ∧ τ A.2.1 = 3 ∧ τ A.2.2.1 = 4 ∧ τ A.2.2.2.1 = 5 ∧ τ A.2.2.2.2.1 = 6 ∧ τ A.2.2.2.2.2.1 = 7 ∧ τ A.2.2.2.2.2.2.1 = 8) ∧
  (w.2 A.1 = some (true, eI 3 ba) ∧ w.2 A.2.1 = some (true, eI 3 st) ∧ w.2 A.2.2.1 = some (true, eI 3 pb) ∧ w.2 A.2.2.2.2.2.2.1 = some (true, eI 5 ct)) ∧
  (w.2 A.2.2.2.1 = some (true, eR 2 3 A.2.2.2.2.2.2.2.1) ∧ w.2 A.2.2.2.2.1 = some (true, eR 2 3 A.2.2.2.2.2.2.2.2.1) ∧ w.2 A.2.2.2.2.2.1 = some (true, eR 2 3 A.2.2.2.2.2.2.2.2.2)) ∧
  (∀ i, i < 3 → ∃ q, A.2.2.2.2.2.2.2.1 i = some q ∧ τ q = 9 ∧ RowAt w q (le i) 4) ∧
  (∀ i, i < 3 → ∃ q, A.2.2.2.2.2.2.2.2.1 i = some q ∧ τ q = 9 ∧ RowAt w q (ri i) 4) ∧
  (∀ i, i < 3 → ∃ q, A.2.2.2.2.2.2.2.2.2 i = some q ∧ τ q = 10 + i ∧ w.2 q = some (true, eI 6 (sp i)))
section
variable {τ : Nat → Nat} {w w' : Wd} {m : Nat} {A : MA} {th : Int} {ba st pb le ri : Nat → Int} {sp : Nat → Nat → Int} {ct : Nat → Int}
theorem MSx.o (h : MSx τ w m A th ba st pb le ri sp ct) : w.2 m = some (true, eO 10 [iI th, .ref A.1, .ref A.2.1, .ref A.2.2.1, .ref A.2.2.2.1, .ref A.2.2.2.2.1, .ref A.2.2.2.2.2.1, .ref A.2.2.2.2.2.2.1]) := h.1
theorem MSx.b (h : MSx τ w m A th ba st pb le ri sp ct) : w.2 A.1 = some (true, eI 3 ba) := h.2.2.1.1
theorem MSx.s (h : MSx τ w m A th ba st pb le ri sp ct) : w.2 A.2.1 = some (true, eI 3 st) := h.2.2.1.2.1
theorem MSx.p (h : MSx τ w m A th ba st pb le ri sp ct) : w.2 A.2.2.1 = some (true, eI 3 pb) := h.2.2.1.2.2.1
theorem MSx.c (h : MSx τ w m A th ba st pb le ri sp ct) : w.2 A.2.2.2.2.2.2.1 = some (true, eI 5 ct) := h.2.2.1.2.2.2
theorem MSx.l (h : MSx τ w m A th ba st pb le ri sp ct) : w.2 A.2.2.2.1 = some (true, eR 2 3 A.2.2.2.2.2.2.2.1) := h.2.2.2.1.1
theorem MSx.r (h : MSx τ w m A th ba st pb le ri sp ct) : w.2 A.2.2.2.2.1 = some (true, eR 2 3 A.2.2.2.2.2.2.2.2.1) := h.2.2.2.1.2.1
theorem MSx.z (h : MSx τ w m A th ba st pb le ri sp ct) : w.2 A.2.2.2.2.2.1 = some (true, eR 2 3 A.2.2.2.2.2.2.2.2.2) := h.2.2.2.1.2.2
theorem MSx.L (h : MSx τ w m A th ba st pb le ri sp ct) {i : Nat} (hi : i < 3) : ∃ q, A.2.2.2.2.2.2.2.1 i = some q ∧ τ q = 9 ∧ RowAt w q (le i) 4 := h.2.2.2.2.1 i hi
theorem MSx.R (h : MSx τ w m A th ba st pb le ri sp ct) {i : Nat} (hi : i < 3) : ∃ q, A.2.2.2.2.2.2.2.2.1 i = some q ∧ τ q = 9 ∧ RowAt w q (ri i) 4 := h.2.2.2.2.2.1 i hi
theorem MSx.Z (h : MSx τ w m A th ba st pb le ri sp ct) {i : Nat} (hi : i < 3) : ∃ q, A.2.2.2.2.2.2.2.2.2 i = some q ∧ τ q = 10 + i ∧ w.2 q = some (true, eI 6 (sp i)) := h.2.2.2.2.2.2 i hi
theorem MSx.tg (h : MSx τ w m A th ba st pb le ri sp ct) : τ m = 1 ∧ τ A.1 = 2 ∧ τ A.2.1 = 3 ∧ τ A.2.2.1 = 4 ∧ τ A.2.2.2.1 = 5 ∧ τ A.2.2.2.2.1 = 6 ∧ τ A.2.2.2.2.2.1 = 7 ∧ τ A.2.2.2.2.2.2.1 = 8 := h.2.1
/-- what a world must keep -/
theorem MSx.keep (h : MSx τ w m A th ba st pb le ri sp ct) (k : ∀ a x, τ a < 100 → w.2 a = some x → w'.2 a = some x) : MSx τ w' m A th ba st pb le ri sp ct := by
  have t := h.tg
  refine ⟨k _ _ (by omega) h.o, t, ⟨k _ _ (by omega) h.b, k _ _ (by omega) h.s, k _ _ (by omega) h.p, k _ _ (by omega) h.c⟩, ⟨k _ _ (by omega) h.l, k _ _ (by omega) h.r, k _ _ (by omega) h.z⟩, fun i hi => ?_, fun i hi => ?_, fun i hi => ?_⟩
  · obtain ⟨q, a, b, n, f, c, d⟩ := h.L hi
    exact ⟨q, a, b, n, f, k _ _ (by omega) c, d⟩
  · obtain ⟨q, a, b, n, f, c, d⟩ := h.R hi
    exact ⟨q, a, b, n, f, k _ _ (by omega) c, d⟩
  · obtain ⟨q, a, b, c⟩ := h.Z hi
    exact ⟨q, a, b, k _ _ (by omega) c⟩
theorem MSx.ex (h : MSx τ w m A th ba st pb le ri sp ct) (e : Ex w w') : MSx τ w' m A th ba st pb le ri sp ct := h.keep (fun a x _ hx => e.2 a x hx)
theorem MSx.tag {τ' : Nat → Nat} (h : MSx τ w m A th ba st pb le ri sp ct) (hw : wF w) (e : ∀ a, a < w.1 → τ' a = τ a) : MSx τ' w m A th ba st pb le ri sp ct := by
  have k : ∀ {a x}, w.2 a = some x → τ' a = τ a := fun {a x} hx => e a (hw a x hx)
  have t := h.tg
  refine ⟨h.o, ⟨(k h.o).trans t.1, (k h.b).trans t.2.1, (k h.s).trans t.2.2.1, (k h.p).trans t.2.2.2.1, (k h.l).trans t.2.2.2.2.1, (k h.r).trans t.2.2.2.2.2.1, (k h.z).trans t.2.2.2.2.2.2.1, (k h.c).trans t.2.2.2.2.2.2.2⟩, ⟨h.b, h.s, h.p, h.c⟩, ⟨h.l, h.r, h.z⟩, fun i hi => ?_, fun i hi => ?_, fun i hi => ?_⟩
  · obtain ⟨q, a, b, n, f, c, d⟩ := h.L hi
    exact ⟨q, a, (k c).trans b, n, f, c, d⟩
  · obtain ⟨q, a, b, n, f, c, d⟩ := h.R hi
    exact ⟨q, a, (k c).trans b, n, f, c, d⟩
  · obtain ⟨q, a, b, c⟩ := h.Z hi
    exact ⟨q, a, (k c).trans b, c⟩

theorem MSx.setO (h : MSx τ w m A th ba st pb le ri sp ct) (th' : Int) : MSx τ (wset w m (true, eO 10 [iI th', .ref A.1, .ref A.2.1, .ref A.2.2.1, .ref A.2.2.2.1, .ref A.2.2.2.2.1, .ref A.2.2.2.2.2.1, .ref A.2.2.2.2.2.2.1])) m A th' ba st pb le ri sp ct := by
  have t := h.tg
  have k : ∀ a, τ a ≠ 1 → (wset w m (true, eO 10 [iI th', .ref A.1, .ref A.2.1, .ref A.2.2.1, .ref A.2.2.2.1, .ref A.2.2.2.2.1, .ref A.2.2.2.2.2.1, .ref A.2.2.2.2.2.2.1])).2 a = w.2 a := fun a ha => wset_n (fun e => ha (by rw [e]; omega))
  refine ⟨wset_s, t, ⟨(k _ (by omega)).trans h.b, (k _ (by omega)).trans h.s, (k _ (by omega)).trans h.p, (k _ (by omega)).trans h.c⟩, ⟨(k _ (by omega)).trans h.l, (k _ (by omega)).trans h.r, (k _ (by omega)).trans h.z⟩, fun i hi => ?_, fun i hi => ?_, fun i hi => ?_⟩
  · obtain ⟨q, a, b, c⟩ := h.L hi
    exact ⟨q, a, b, c.keep (k q (by omega))⟩
  · obtain ⟨q, a, b, c⟩ := h.R hi
    exact ⟨q, a, b, c.keep (k q (by omega))⟩
  · obtain ⟨q, a, b, c⟩ := h.Z hi
    exact ⟨q, a, b, (k q (by omega)).trans c⟩
theorem MSx.setB (h : MSx τ w m A th ba st pb le ri sp ct) (f : Nat → Int) : MSx τ (wset w A.1 (true, eI 3 f)) m A th f st pb le ri sp ct := by
  have t := h.tg
  have k : ∀ a, τ a ≠ 2 → (wset w A.1 (true, eI 3 f)).2 a = w.2 a := fun a ha => wset_n (fun e => ha (by rw [e]; omega))
  refine ⟨(k _ (by omega)).trans h.o, t, ⟨wset_s, (k _ (by omega)).trans h.s, (k _ (by omega)).trans h.p, (k _ (by omega)).trans h.c⟩, ⟨(k _ (by omega)).trans h.l, (k _ (by omega)).trans h.r, (k _ (by omega)).trans h.z⟩, fun i hi => ?_, fun i hi => ?_, fun i hi => ?_⟩
  · obtain ⟨q, a, b, c⟩ := h.L hi
    exact ⟨q, a, b, c.keep (k q (by omega))⟩
  · obtain ⟨q, a, b, c⟩ := h.R hi
    exact ⟨q, a, b, c.keep (k q (by omega))⟩
  · obtain ⟨q, a, b, c⟩ := h.Z hi
    exact ⟨q, a, b, (k q (by omega)).trans c⟩
theorem MSx.setS (h : MSx τ w m A th ba st pb le ri sp ct) (f : Nat → Int) : MSx τ (wset w A.2.1 (true, eI 3 f)) m A th ba f pb le ri sp ct := by
  have t := h.tg
  have k : ∀ a, τ a ≠ 3 → (wset w A.2.1 (true, eI 3 f)).2 a = w.2 a := fun a ha => wset_n (fun e => ha (by rw [e]; omega))
  refine ⟨(k _ (by omega)).trans h.o, t, ⟨(k _ (by omega)).trans h.b, wset_s, (k _ (by omega)).trans h.p, (k _ (by omega)).trans h.c⟩, ⟨(k _ (by omega)).trans h.l, (k _ (by omega)).trans h.r, (k _ (by omega)).trans h.z⟩, fun i hi => ?_, fun i hi => ?_, fun i hi => ?_⟩
  · obtain ⟨q, a, b, c⟩ := h.L hi
    exact ⟨q, a, b, c.keep (k q (by omega))⟩
  · obtain ⟨q, a, b, c⟩ := h.R hi
    exact ⟨q, a, b, c.keep (k q (by omega))⟩
  · obtain ⟨q, a, b, c⟩ := h.Z hi
    exact ⟨q, a, b, (k q (by omega)).trans c⟩
theorem MSx.setP (h : MSx τ w m A th ba st pb le ri sp ct) (f : Nat → Int) : MSx τ (wset w A.2.2.1 (true, eI 3 f)) m A th ba st f le ri sp ct := by
  have t := h.tg
  have k : ∀ a, τ a ≠ 4 → (wset w A.2.2.1 (true, eI 3 f)).2 a = w.2 a := fun a ha => wset_n (fun e => ha (by rw [e]; omega))
  refine ⟨(k _ (by omega)).trans h.o, t, ⟨(k _ (by omega)).trans h.b, (k _ (by omega)).trans h.s, wset_s, (k _ (by omega)).trans h.c⟩, ⟨(k _ (by omega)).trans h.l, (k _ (by omega)).trans h.r, (k _ (by omega)).trans h.z⟩, fun i hi => ?_, fun i hi => ?_, fun i hi => ?_⟩
  · obtain ⟨q, a, b, c⟩ := h.L hi
    exact ⟨q, a, b, c.keep (k q (by omega))⟩
  · obtain ⟨q, a, b, c⟩ := h.R hi
    exact ⟨q, a, b, c.keep (k q (by omega))⟩
  · obtain ⟨q, a, b, c⟩ := h.Z hi
    exact ⟨q, a, b, (k q (by omega)).trans c⟩
theorem MSx.setC (h : MSx τ w m A th ba st pb le ri sp ct) (f : Nat → Int) : MSx τ (wset w A.2.2.2.2.2.2.1 (true, eI 5 f)) m A th ba st pb le ri sp f := by
  have t := h.tg
  have k : ∀ a, τ a ≠ 8 → (wset w A.2.2.2.2.2.2.1 (true, eI 5 f)).2 a = w.2 a := fun a ha => wset_n (fun e => ha (by rw [e]; omega))
  refine ⟨(k _ (by omega)).trans h.o, t, ⟨(k _ (by omega)).trans h.b, (k _ (by omega)).trans h.s, (k _ (by omega)).trans h.p, wset_s⟩, ⟨(k _ (by omega)).trans h.l, (k _ (by omega)).trans h.r, (k _ (by omega)).trans h.z⟩, fun i hi => ?_, fun i hi => ?_, fun i hi => ?_⟩
  · obtain ⟨q, a, b, c⟩ := h.L hi
    exact ⟨q, a, b, c.keep (k q (by omega))⟩
  · obtain ⟨q, a, b, c⟩ := h.R hi
    exact ⟨q, a, b, c.keep (k q (by omega))⟩
  · obtain ⟨q, a, b, c⟩ := h.Z hi
    exact ⟨q, a, b, (k q (by omega)).trans c⟩
end
theorem bI_01 (p : Prop) [Decidable p] : bI p = 0 ∨ bI p = 1 := by unfold bI; split <;> omega
theorem narB {p : Prop} [Decidable p] : narrow .boolean (iI (bI p)) = iI (bI p) := nar01 (by unfold bI; split <;> omega)
/-- what others own stays -/
def Keep (τ : Nat → Nat) (w w' : Wd) : Prop := w.1 ≤ w'.1 ∧ ∀ a x, 100 ≤ τ a → w.2 a = some x → w'.2 a = some x
theorem Keep.rf (τ : Nat → Nat) (w : Wd) : Keep τ w w := ⟨Nat.le_refl _, fun _ _ _ h => h⟩
theorem Keep.tr {τ : Nat → Nat} {w u v : Wd} (h : Keep τ w u) (g : Keep τ u v) : Keep τ w v := ⟨Nat.le_trans h.1 g.1, fun a x t e => g.2 a x t (h.2 a x t e)⟩
theorem Keep.ex {τ : Nat → Nat} {w u : Wd} (h : Ex w u) : Keep τ w u := ⟨h.1, fun a x _ e => h.2 a x e⟩
theorem Keep.set {τ : Nat → Nat} {w : Wd} {a : Nat} (e : WdE) (h : τ a < 100) : Keep τ w (wset w a e) := ⟨Nat.le_refl _, fun b x t h' => by rw [wset_n (fun q => by subst q; omega)]; exact h'⟩
theorem MSx.kset {τ : Nat → Nat} {w : Wd} {m : Nat} {A : MA} {th : Int} {ba st pb le ri : Nat → Int} {sp : Nat → Nat → Int} {ct : Nat → Int} (_h : MSx τ w m A th ba st pb le ri sp ct) : True := trivial
set_option maxHeartbeats 4000000 in
set_option maxRecDepth 100000 in
theorem c_X8_thrown (l : Launch) {E : GE} {w : Wd} {τ : Nat → Nat} {m : Nat} {A : MA} {th : Int} {ba st pb le ri : Nat → Int} {sp : Nat → Nat → Int} {ct : Nat → Int} (hM : MSx τ w m A th ba st pb le ri sp ct) (ht : 0 ≤ th ∧ th ≤ 2) : Sp E l yX8_thrown cX8_thrown 1 (some .int) 0 (0) (0) [.ref m] w (fun r w' => r = some (iI th) ∧ w' = w) := by
  refine sp_intro [some (.ref m)] rfl (Nat.le_of_ble_eq_true rfl) pn_X8 ?_
  intro X C hRm hl hnm hQ
  obtain ⟨hRf, hRl, hRc, hRs⟩ := hRm
  refine g_wf (fun hwf => ?_)
  refine g_aload_n C dX8_thrown_0 rfl ?_
  refine g_get (ci := 10) C rfl inTX8 0 (by decide) fl_RX8_41 rfl hM.o rfl dX8_thrown_1 ?_
  exact g_ireturn C hQ dX8_thrown_4 (Nat.le_refl _) (Nat.le_refl _) ⟨rfl, rfl⟩
set_option maxHeartbeats 4000000 in
set_option maxRecDepth 100000 in
theorem c_X8_refuse (l : Launch) {E : GE} {w : Wd} {τ : Nat → Nat} {m : Nat} {A : MA} {th : Int} {ba st pb le ri : Nat → Int} {sp : Nat → Nat → Int} {ct : Nat → Int} (hM : MSx τ w m A th ba st pb le ri sp ct) {y wh : Int} (ht : 0 ≤ th ∧ th ≤ 2) (hy : y = 0 ∨ y = 1) (hwh : 1 ≤ wh ∧ wh ≤ 2) : Sp E l yX8_refuse cX8_refuse 3 (some .boolean) 0 (0) (0) [.ref m, iI y, iI wh] w (fun r w' => ∃ t : Int, r = some (iI (bI (0 < t))) ∧ (y = 1 ∧ th = 0 ∧ t = wh ∨ (y = 0 ∨ th ≠ 0) ∧ t = th) ∧ MSx τ w' m A (t) (ba) (st) (pb) (le) (ri) (sp) (ct) ∧ Keep τ w w') := by
  refine sp_intro [some (.ref m), some (iI y), some (iI wh)] rfl (Nat.le_of_ble_eq_true rfl) pn_X8 ?_
  intro X C hRm hl hnm hQ
  obtain ⟨hRf, hRl, hRc, hRs⟩ := hRm
  refine g_wf (fun hwf => ?_)
  have J16 : ∀ (u : Wd) (t : Int), (y = 1 ∧ th = 0 ∧ t = wh ∨ (y = 0 ∨ th ≠ 0) ∧ t = th) → MSx τ u m A t ba st pb le ri sp ct → Keep τ w u → G E X 3 16 [some (.ref m), some (iI y), some (iI wh)] [] u 0 0 := by
    intro u t ht' hU hK
    refine g_aload_n C dX8_refuse_16 rfl ?_
    refine g_get (ci := 10) C rfl inTX8 0 (by decide) fl_RX8_41 rfl hU.o rfl dX8_refuse_17 ?_
    refine g_if_le (tgt := 27) C dX8_refuse_20 (by decide) (by omega) (fun h20 => ?_) (fun h20 => ?_)
    · refine g_iconst C dX8_refuse_27 ?_
      exact g_zreturn C hQ dX8_refuse_28 rfl (Nat.le_refl _) (Nat.le_refl _) ⟨t, by first | rw [bI_t (by omega)] | rw [bI_f (by omega)], ht', hU, hK⟩
    · refine g_iconst C dX8_refuse_23 ?_
      refine g_goto (tgt := 28) C dX8_refuse_24 (by decide) ?_
      exact g_zreturn C hQ dX8_refuse_28 rfl (Nat.le_refl _) (Nat.le_refl _) ⟨t, by first | rw [bI_t (by omega)] | rw [bI_f (by omega)], ht', hU, hK⟩
  refine g_iload_n C dX8_refuse_0 rfl ?_
  refine g_if_eq (tgt := 16) C dX8_refuse_1 (by decide) (by omega) (fun h1 => ?_) (fun h1 => ?_)
  · first | exact J16 _ _ (by omega) hM (Keep.rf _ _) | exact J16 _ _ (by omega) (hM.setO wh) (Keep.set _ (by have := hM.tg; omega))
  · refine g_aload_n C dX8_refuse_4 rfl ?_
    refine g_get (ci := 10) C rfl inTX8 0 (by decide) fl_RX8_41 rfl hM.o rfl dX8_refuse_5 ?_
    refine g_if_ne (tgt := 16) C dX8_refuse_8 (by decide) (by omega) (fun h8 => ?_) (fun h8 => ?_)
    · first | exact J16 _ _ (by omega) hM (Keep.rf _ _) | exact J16 _ _ (by omega) (hM.setO wh) (Keep.set _ (by have := hM.tg; omega))
    · refine g_aload_n C dX8_refuse_11 rfl ?_
      refine g_iload_n C dX8_refuse_12 rfl ?_
      refine g_put (ci := 10) C rfl inTX8 tyX8 tyX8_ok nmX8 0 (by decide) fl_RX8_41 rfl rfl hM.o (Nat.le_of_ble_eq_true rfl) rfl rfl dX8_refuse_13 ?_
      first | exact J16 _ _ (by omega) hM (Keep.rf _ _) | exact J16 _ _ (by omega) (hM.setO wh) (Keep.set _ (by have := hM.tg; omega))
set_option maxHeartbeats 4000000 in
set_option maxRecDepth 100000 in
theorem c_X8_start (l : Launch) {E : GE} {w : Wd} {τ : Nat → Nat} {m : Nat} {A : MA} {th : Int} {ba st pb le ri : Nat → Int} {sp : Nat → Nat → Int} {ct : Nat → Int} (hM : MSx τ w m A th ba st pb le ri sp ct) {y wh : Int} (hy : y = 0 ∨ y = 1) (hwh : 1 ≤ wh ∧ wh ≤ 2) : Sp E l yX8_start cX8_start 3 (some .boolean) 1 (0) (0) [.ref m, iI y, iI wh] w (fun r w' => ∃ t : Int, r = some (iI y) ∧ (y = 1 ∧ t = wh ∨ y = 0 ∧ t = 0) ∧ MSx τ w' m A (t) (ba) (st) (pb) (le) (ri) (sp) (ct) ∧ Keep τ w w') := by
  refine sp_intro [some (.ref m), some (iI y), some (iI wh)] rfl (Nat.le_of_ble_eq_true rfl) pn_X8 ?_
  intro X C hRm hl hnm hQ
  obtain ⟨hRf, hRl, hRc, hRs⟩ := hRm
  refine g_wf (fun hwf => ?_)
  refine g_aload_n C dX8_start_0 rfl ?_
  refine g_iconst C dX8_start_1 ?_
  refine g_put (ci := 10) C rfl inTX8 tyX8 tyX8_ok nmX8 0 (by decide) fl_RX8_41 rfl rfl hM.o (Nat.le_of_ble_eq_true rfl) rfl rfl dX8_start_2 ?_
  refine g_aload_n C dX8_start_5 rfl ?_
  refine g_iload_n C dX8_start_6 rfl ?_
  refine g_iload_n C dX8_start_7 rfl ?_
  refine g_callV C (c_X8_refuse _ (hM.setO 0) (y := y) (wh := wh) (by omega) hy hwh) (ci := 10) rfl (hM.setO 0).o rfl ml_RX8_45 im_yX8_refuse se_RX8_yX8_refuse in_RX8 co_yX8_refuse hd_X8_refuse rfl ⟨by omega, by omega⟩ rfl (Nat.le_of_ble_eq_true rfl) ⟨by omega, by omega⟩ dX8_start_8 (fun v8 w8 hp8 => ?_)
  obtain ⟨t, rfl, ht, hU, hK⟩ := hp8
  exact g_zreturn C hQ dX8_start_11 narB (Nat.le_refl _) (Nat.le_refl _) ⟨t, by rcases hy with q | q <;> subst q <;> first | rw [bI_t (by omega)] | rw [bI_f (by omega)], by omega, hU, (Keep.set _ (by have := hM.tg; omega)).tr hK⟩
set_option maxHeartbeats 4000000 in
set_option maxRecDepth 100000 in
theorem c_X8_done (l : Launch) {E : GE} {w : Wd} {τ : Nat → Nat} {m : Nat} {A : MA} {th : Int} {ba st pb le ri : Nat → Int} {sp : Nat → Nat → Int} {ct : Nat → Int} (hM : MSx τ w m A th ba st pb le ri sp ct) {kd to : Int} (hk : 0 ≤ kd ∧ kd ≤ 4) : Sp E l yX8_done cX8_done 3 (some .int) 0 (0) (0) [.ref m, iI kd, iI to] w (fun r w' => r = some (iI to) ∧ MSx τ w' m A (th) (ba) (st) (pb) (le) (ri) (sp) (iup ct kd.toNat (ct kd.toNat + 1)) ∧ Keep τ w w') := by
  refine sp_intro [some (.ref m), some (iI kd), some (iI to)] rfl (Nat.le_of_ble_eq_true rfl) pn_X8 ?_
  intro X C hRm hl hnm hQ
  obtain ⟨hRf, hRl, hRc, hRs⟩ := hRm
  refine g_wf (fun hwf => ?_)
  refine g_aload_n C dX8_done_0 rfl ?_
  refine g_get (ci := 10) C rfl inTX8 7 (by decide) fl_RX8_38 rfl hM.o rfl dX8_done_1 ?_
  refine g_iload_n C dX8_done_4 rfl ?_
  refine g_dup2 C dX8_done_5 rfl rfl ?_
  refine g_ialoadN (kd.toNat) C hM.c (by omega) (by omega) dX8_done_6 ?_
  refine g_iconst C dX8_done_7 ?_
  refine g_iadd C dX8_done_8 ?_
  refine g_iastoreN (kd.toNat) C hM.c (by omega) (by omega) dX8_done_9 ?_
  refine g_iload_n C dX8_done_10 rfl ?_
  exact g_ireturn C hQ dX8_done_11 (Nat.le_refl _) (Nat.le_refl _) ⟨rfl, hM.setC _, Keep.set _ (by have := hM.tg; omega)⟩
set_option maxHeartbeats 4000000 in
set_option maxRecDepth 100000 in
theorem c_X8_cannot (l : Launch) {E : GE} {w : Wd} {τ : Nat → Nat} {m : Nat} {A : MA} {th : Int} {ba st pb le ri : Nat → Int} {sp : Nat → Nat → Int} {ct : Nat → Int} (hM : MSx τ w m A th ba st pb le ri sp ct) : Sp E l yX8_cannot cX8_cannot 1 (some .int) 0 (0) (0) [.ref m] w (fun r w' => r = some (iI (-9)) ∧ MSx τ w' m A (th) (ba) (st) (pb) (le) (ri) (sp) (iup ct 3 (ct 3 + 1)) ∧ Keep τ w w') := by
  refine sp_intro [some (.ref m)] rfl (Nat.le_of_ble_eq_true rfl) pn_X8 ?_
  intro X C hRm hl hnm hQ
  obtain ⟨hRf, hRl, hRc, hRs⟩ := hRm
  refine g_wf (fun hwf => ?_)
  refine g_aload_n C dX8_cannot_0 rfl ?_
  refine g_get (ci := 10) C rfl inTX8 7 (by decide) fl_RX8_38 rfl hM.o rfl dX8_cannot_1 ?_
  refine g_iconst C dX8_cannot_4 ?_
  refine g_dup2 C dX8_cannot_5 rfl rfl ?_
  refine g_ialoadN (3) C hM.c (by omega) (by omega) dX8_cannot_6 ?_
  refine g_iconst C dX8_cannot_7 ?_
  refine g_iadd C dX8_cannot_8 ?_
  refine g_iastoreN (3) C hM.c (by omega) (by omega) dX8_cannot_9 ?_
  refine g_bipush C dX8_cannot_10 (by decide) ?_
  exact g_ireturn C hQ dX8_cannot_12 (Nat.le_refl _) (Nat.le_refl _) ⟨rfl, hM.setC _, Keep.set _ (by have := hM.tg; omega)⟩
set_option maxHeartbeats 4000000 in
set_option maxRecDepth 100000 in
theorem c_X8_leastOf (l : Launch) {E : GE} {w : Wd} {b r : Int} (hb : GB b) (hr : RT b r) : Sp E l yX8_leastOf cX8_leastOf 2 (some (.array (.array .int))) 3 (26) (96) [iI b] w (fun r1 w' => ∃ q p : Nat, r1 = some (.ref q) ∧ isPer b r p ∧ R4 w.1 w' q (pq b r 1 r ((if p % 2 = 0 then p else 2 * p) - 1)).1 (pq b r 0 1 ((if p % 2 = 0 then p else 2 * p) - 1)).1 (pq b r 1 r ((if p % 2 = 0 then p else 2 * p) - 1)).2 (pq b r 0 1 ((if p % 2 = 0 then p else 2 * p) - 1)).2 ∧ Ex w w' ∧ w.1 ≤ q) := by
  refine sp_intro [some (iI b), none] rfl (Nat.le_of_ble_eq_true rfl) pn_X8 ?_
  intro X C hRm hl hnm hQ
  obtain ⟨hRf, hRl, hRc, hRs⟩ := hRm
  refine g_wf (fun hwf => ?_)
  refine g_iload_n C dX8_leastOf_0 rfl ?_
  refine g_callS C (c_X8_periodOf _ (b := b) (r := r) hb hr) ml_RX8_142 sm_yX8_periodOf in_RX8 co_yX8_periodOf hd_X8_periodOf rfl ⟨by omega, by omega⟩ rfl (Nat.le_of_ble_eq_true rfl) ⟨by omega, by omega⟩ dX8_leastOf_1 (fun v1 w1 hp1 => ?_)
  obtain ⟨p, rfl, hp, hx1⟩ := hp1
  refine g_istore_n C dX8_leastOf_4 (by decide) rfl ?_
  have hpo := per_odd hb hr hp
  have hp1' := hp.1
  have hp2' := hp.2.1
  refine g_wf (fun hwf1 => ?_)
  have J19 : ∀ z : Int, z = (((if p % 2 = 0 then p else 2 * p) : Nat) : Int) → G E X 2 19 [some (iI b), some (iI (p : Int))] [iI z, iI b] w1 16 48 := by
    intro z hz
    refine g_iconst C dX8_leastOf_19 ?_
    refine g_isub C dX8_leastOf_20 ?_
    refine g_eq (st' := [iI (((if p % 2 = 0 then p else 2 * p) - 1 : Nat) : Int), iI b]) rfl (by rw [hz, show (((if p % 2 = 0 then p else 2 * p : Nat)) : Int) - 1 = (((if p % 2 = 0 then p else 2 * p) - 1 : Nat) : Int) by split <;> omega]) ?_
    refine g_callS C (c_X8_walked _ (b := b) (r := r) (K := (if p % 2 = 0 then p else 2 * p) - 1) hb hr (by split <;> omega)) ml_RX8_134 sm_yX8_walked in_RX8 co_yX8_walked hd_X8_walked rfl ⟨by omega, by omega⟩ rfl (Nat.le_of_ble_eq_true rfl) ⟨by omega, by omega⟩ dX8_leastOf_21 (fun v21 w21 hp21 => ?_)
    obtain ⟨q21, rfl, hR21, hf21, hq21⟩ := hp21
    exact g_areturn C (Or.inr ⟨_, rfl⟩) hQ (Or.inr ⟨_, rfl⟩) dX8_leastOf_24 (by omega) (by omega) ⟨q21, p, rfl, hp, by obtain ⟨R, a0, a1, a2, a3, x0, x1, x2, x3, x4, x5, x6, x7, x8, x9⟩ := hR21; exact ⟨R, a0, a1, a2, a3, x0, x1, x2, x3, x4, x5, x6, x7, x8, by have := hx1.1; omega⟩, hx1.tr (hf21.ex hwf1), by have := hx1.1; omega⟩
  refine g_iload_n C dX8_leastOf_5 rfl ?_
  refine g_iload_n C dX8_leastOf_6 rfl ?_
  refine g_iconst C dX8_leastOf_7 ?_
  refine g_iremN C dX8_leastOf_8 (by omega) (by omega) ?_
  refine g_if_ne (tgt := 16) C dX8_leastOf_9 (by decide) (by omega) (fun h9 => ?_) (fun h9 => ?_)
  · refine g_iconst C dX8_leastOf_16 ?_
    refine g_iload_n C dX8_leastOf_17 rfl ?_
    refine g_imul C dX8_leastOf_18 ?_
    exact J19 _ (by first | (rw [if_pos (by omega)]) | (rw [if_neg (by omega)]; omega))
  · refine g_iload_n C dX8_leastOf_12 rfl ?_
    refine g_goto (tgt := 19) C dX8_leastOf_13 (by decide) ?_
    exact J19 _ (by first | (rw [if_pos (by omega)]) | (rw [if_neg (by omega)]; omega))
