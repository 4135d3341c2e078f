/-! the model's object in a world; tags of addresses keep things apart -/
abbrev MA : Type := Nat × Nat × Nat × Nat × Nat × Nat × Nat × (Nat → Option Nat) × (Nat → Option Nat) × (Nat → Option Nat)
def MSx (τ : Nat → Nat) (w : Wd) (m : Nat) (A : MA) (th : Int) (ba st pb le ri : Nat → Int) (sp : Nat → Nat → Int) (ct : Nat → Int) : Prop :=
  w.2 m = some (true, eO 10 [iI th, .ref A.1, .ref A.2.1, .ref A.2.2.1, .ref A.2.2.2.1, .ref A.2.2.2.2.1, .ref A.2.2.2.2.2.1, .ref A.2.2.2.2.2.2.1]) ∧
  (τ m = 1 ∧ τ A.1 = 2 ∧ τ A.2.1 = 3 ∧ τ A.2.2.1 = 4 ∧ τ A.2.2.2.1 = 5 ∧ τ A.2.2.2.2.1 = 6 ∧ τ A.2.2.2.2.2.1 = 7 ∧ τ A.2.2.2.2.2.2.1 = 8) ∧
  (w.2 A.1 = some (true, eI 3 ba) ∧ w.2 A.2.1 = some (true, eI 3 st) ∧ w.2 A.2.2.1 = some (true, eI 3 pb) ∧ w.2 A.2.2.2.2.2.2.1 = some (true, eI 5 ct)) ∧
  (w.2 A.2.2.2.1 = some (true, eR 2 3 A.2.2.2.2.2.2.2.1) ∧ w.2 A.2.2.2.2.1 = some (true, eR 2 3 A.2.2.2.2.2.2.2.2.1) ∧ w.2 A.2.2.2.2.2.1 = some (true, eR 2 3 A.2.2.2.2.2.2.2.2.2)) ∧
  (∀ i, i < 3 → ∃ q, A.2.2.2.2.2.2.2.1 i = some q ∧ τ q = 9 ∧ RowAt w q (le i) 4) ∧
  (∀ i, i < 3 → ∃ q, A.2.2.2.2.2.2.2.2.1 i = some q ∧ τ q = 9 ∧ RowAt w q (ri i) 4) ∧
  (∀ i, i < 3 → ∃ q, A.2.2.2.2.2.2.2.2.2 i = some q ∧ τ q = 10 + i ∧ w.2 q = some (true, eI 6 (sp i)))
section
variable {τ : Nat → Nat} {w w' : Wd} {m : Nat} {A : MA} {th : Int} {ba st pb le ri : Nat → Int} {sp : Nat → Nat → Int} {ct : Nat → Int}
theorem MSx.o (h : MSx τ w m A th ba st pb le ri sp ct) : w.2 m = some (true, eO 10 [iI th, .ref A.1, .ref A.2.1, .ref A.2.2.1, .ref A.2.2.2.1, .ref A.2.2.2.2.1, .ref A.2.2.2.2.2.1, .ref A.2.2.2.2.2.2.1]) := h.1
theorem MSx.b (h : MSx τ w m A th ba st pb le ri sp ct) : w.2 A.1 = some (true, eI 3 ba) := h.2.2.1.1
theorem MSx.s (h : MSx τ w m A th ba st pb le ri sp ct) : w.2 A.2.1 = some (true, eI 3 st) := h.2.2.1.2.1
theorem MSx.p (h : MSx τ w m A th ba st pb le ri sp ct) : w.2 A.2.2.1 = some (true, eI 3 pb) := h.2.2.1.2.2.1
theorem MSx.c (h : MSx τ w m A th ba st pb le ri sp ct) : w.2 A.2.2.2.2.2.2.1 = some (true, eI 5 ct) := h.2.2.1.2.2.2
theorem MSx.l (h : MSx τ w m A th ba st pb le ri sp ct) : w.2 A.2.2.2.1 = some (true, eR 2 3 A.2.2.2.2.2.2.2.1) := h.2.2.2.1.1
theorem MSx.r (h : MSx τ w m A th ba st pb le ri sp ct) : w.2 A.2.2.2.2.1 = some (true, eR 2 3 A.2.2.2.2.2.2.2.2.1) := h.2.2.2.1.2.1
theorem MSx.z (h : MSx τ w m A th ba st pb le ri sp ct) : w.2 A.2.2.2.2.2.1 = some (true, eR 2 3 A.2.2.2.2.2.2.2.2.2) := h.2.2.2.1.2.2
theorem MSx.L (h : MSx τ w m A th ba st pb le ri sp ct) {i : Nat} (hi : i < 3) : ∃ q, A.2.2.2.2.2.2.2.1 i = some q ∧ τ q = 9 ∧ RowAt w q (le i) 4 := h.2.2.2.2.1 i hi
theorem MSx.R (h : MSx τ w m A th ba st pb le ri sp ct) {i : Nat} (hi : i < 3) : ∃ q, A.2.2.2.2.2.2.2.2.1 i = some q ∧ τ q = 9 ∧ RowAt w q (ri i) 4 := h.2.2.2.2.2.1 i hi
theorem MSx.Z (h : MSx τ w m A th ba st pb le ri sp ct) {i : Nat} (hi : i < 3) : ∃ q, A.2.2.2.2.2.2.2.2.2 i = some q ∧ τ q = 10 + i ∧ w.2 q = some (true, eI 6 (sp i)) := h.2.2.2.2.2.2 i hi
theorem MSx.tg (h : MSx τ w m A th ba st pb le ri sp ct) : τ m = 1 ∧ τ A.1 = 2 ∧ τ A.2.1 = 3 ∧ τ A.2.2.1 = 4 ∧ τ A.2.2.2.1 = 5 ∧ τ A.2.2.2.2.1 = 6 ∧ τ A.2.2.2.2.2.1 = 7 ∧ τ A.2.2.2.2.2.2.1 = 8 := h.2.1
/-- what a world must keep -/
theorem MSx.keep (h : MSx τ w m A th ba st pb le ri sp ct) (k : ∀ a x, τ a < 100 → w.2 a = some x → w'.2 a = some x) : MSx τ w' m A th ba st pb le ri sp ct := by
  have t := h.tg
  refine ⟨k _ _ (by omega) h.o, t, ⟨k _ _ (by omega) h.b, k _ _ (by omega) h.s, k _ _ (by omega) h.p, k _ _ (by omega) h.c⟩, ⟨k _ _ (by omega) h.l, k _ _ (by omega) h.r, k _ _ (by omega) h.z⟩, fun i hi => ?_, fun i hi => ?_, fun i hi => ?_⟩
  · obtain ⟨q, a, b, n, f, c, d⟩ := h.L hi
    exact ⟨q, a, b, n, f, k _ _ (by omega) c, d⟩
  · obtain ⟨q, a, b, n, f, c, d⟩ := h.R hi
    exact ⟨q, a, b, n, f, k _ _ (by omega) c, d⟩
  · obtain ⟨q, a, b, c⟩ := h.Z hi
    exact ⟨q, a, b, k _ _ (by omega) c⟩
theorem MSx.ex (h : MSx τ w m A th ba st pb le ri sp ct) (e : Ex w w') : MSx τ w' m A th ba st pb le ri sp ct := h.keep (fun a x _ hx => e.2 a x hx)
theorem MSx.tag {τ' : Nat → Nat} (h : MSx τ w m A th ba st pb le ri sp ct) (hw : wF w) (e : ∀ a, a < w.1 → τ' a = τ a) : MSx τ' w m A th ba st pb le ri sp ct := by
  have k : ∀ {a x}, w.2 a = some x → τ' a = τ a := fun {a x} hx => e a (hw a x hx)
  have t := h.tg
  refine ⟨h.o, ⟨(k h.o).trans t.1, (k h.b).trans t.2.1, (k h.s).trans t.2.2.1, (k h.p).trans t.2.2.2.1, (k h.l).trans t.2.2.2.2.1, (k h.r).trans t.2.2.2.2.2.1, (k h.z).trans t.2.2.2.2.2.2.1, (k h.c).trans t.2.2.2.2.2.2.2⟩, ⟨h.b, h.s, h.p, h.c⟩, ⟨h.l, h.r, h.z⟩, fun i hi => ?_, fun i hi => ?_, fun i hi => ?_⟩
  · obtain ⟨q, a, b, n, f, c, d⟩ := h.L hi
    exact ⟨q, a, (k c).trans b, n, f, c, d⟩
  · obtain ⟨q, a, b, n, f, c, d⟩ := h.R hi
    exact ⟨q, a, (k c).trans b, n, f, c, d⟩
  · obtain ⟨q, a, b, c⟩ := h.Z hi
    exact ⟨q, a, (k c).trans b, c⟩

theorem MSx.setO (h : MSx τ w m A th ba st pb le ri sp ct) (th' : Int) : MSx τ (wset w m (true, eO 10 [iI th', .ref A.1, .ref A.2.1, .ref A.2.2.1, .ref A.2.2.2.1, .ref A.2.2.2.2.1, .ref A.2.2.2.2.2.1, .ref A.2.2.2.2.2.2.1])) m A th' ba st pb le ri sp ct := by
  have t := h.tg
  have k : ∀ a, τ a ≠ 1 → (wset w m (true, eO 10 [iI th', .ref A.1, .ref A.2.1, .ref A.2.2.1, .ref A.2.2.2.1, .ref A.2.2.2.2.1, .ref A.2.2.2.2.2.1, .ref A.2.2.2.2.2.2.1])).2 a = w.2 a := fun a ha => wset_n (fun e => ha (by rw [e]; omega))
  refine ⟨wset_s, t, ⟨(k _ (by omega)).trans h.b, (k _ (by omega)).trans h.s, (k _ (by omega)).trans h.p, (k _ (by omega)).trans h.c⟩, ⟨(k _ (by omega)).trans h.l, (k _ (by omega)).trans h.r, (k _ (by omega)).trans h.z⟩, fun i hi => ?_, fun i hi => ?_, fun i hi => ?_⟩
  · obtain ⟨q, a, b, c⟩ := h.L hi
    exact ⟨q, a, b, c.keep (k q (by omega))⟩
  · obtain ⟨q, a, b, c⟩ := h.R hi
    exact ⟨q, a, b, c.keep (k q (by omega))⟩
  · obtain ⟨q, a, b, c⟩ := h.Z hi
    exact ⟨q, a, b, (k q (by omega)).trans c⟩
theorem MSx.setB (h : MSx τ w m A th ba st pb le ri sp ct) (f : Nat → Int) : MSx τ (wset w A.1 (true, eI 3 f)) m A th f st pb le ri sp ct := by
  have t := h.tg
  have k : ∀ a, τ a ≠ 2 → (wset w A.1 (true, eI 3 f)).2 a = w.2 a := fun a ha => wset_n (fun e => ha (by rw [e]; omega))
  refine ⟨(k _ (by omega)).trans h.o, t, ⟨wset_s, (k _ (by omega)).trans h.s, (k _ (by omega)).trans h.p, (k _ (by omega)).trans h.c⟩, ⟨(k _ (by omega)).trans h.l, (k _ (by omega)).trans h.r, (k _ (by omega)).trans h.z⟩, fun i hi => ?_, fun i hi => ?_, fun i hi => ?_⟩
  · obtain ⟨q, a, b, c⟩ := h.L hi
    exact ⟨q, a, b, c.keep (k q (by omega))⟩
  · obtain ⟨q, a, b, c⟩ := h.R hi
    exact ⟨q, a, b, c.keep (k q (by omega))⟩
  · obtain ⟨q, a, b, c⟩ := h.Z hi
    exact ⟨q, a, b, (k q (by omega)).trans c⟩
theorem MSx.setS (h : MSx τ w m A th ba st pb le ri sp ct) (f : Nat → Int) : MSx τ (wset w A.2.1 (true, eI 3 f)) m A th ba f pb le ri sp ct := by
  have t := h.tg
  have k : ∀ a, τ a ≠ 3 → (wset w A.2.1 (true, eI 3 f)).2 a = w.2 a := fun a ha => wset_n (fun e => ha (by rw [e]; omega))
  refine ⟨(k _ (by omega)).trans h.o, t, ⟨(k _ (by omega)).trans h.b, wset_s, (k _ (by omega)).trans h.p, (k _ (by omega)).trans h.c⟩, ⟨(k _ (by omega)).trans h.l, (k _ (by omega)).trans h.r, (k _ (by omega)).trans h.z⟩, fun i hi => ?_, fun i hi => ?_, fun i hi => ?_⟩
  · obtain ⟨q, a, b, c⟩ := h.L hi
    exact ⟨q, a, b, c.keep (k q (by omega))⟩
  · obtain ⟨q, a, b, c⟩ := h.R hi
    exact ⟨q, a, b, c.keep (k q (by omega))⟩
  · obtain ⟨q, a, b, c⟩ := h.Z hi
    exact ⟨q, a, b, (k q (by omega)).trans c⟩
theorem MSx.setP (h : MSx τ w m A th ba st pb le ri sp ct) (f : Nat → Int) : MSx τ (wset w A.2.2.1 (true, eI 3 f)) m A th ba st f le ri sp ct := by
  have t := h.tg
  have k : ∀ a, τ a ≠ 4 → (wset w A.2.2.1 (true, eI 3 f)).2 a = w.2 a := fun a ha => wset_n (fun e => ha (by rw [e]; omega))
  refine ⟨(k _ (by omega)).trans h.o, t, ⟨(k _ (by omega)).trans h.b, (k _ (by omega)).trans h.s, wset_s, (k _ (by omega)).trans h.c⟩, ⟨(k _ (by omega)).trans h.l, (k _ (by omega)).trans h.r, (k _ (by omega)).trans h.z⟩, fun i hi => ?_, fun i hi => ?_, fun i hi => ?_⟩
  · obtain ⟨q, a, b, c⟩ := h.L hi
    exact ⟨q, a, b, c.keep (k q (by omega))⟩
  · obtain ⟨q, a, b, c⟩ := h.R hi
    exact ⟨q, a, b, c.keep (k q (by omega))⟩
  · obtain ⟨q, a, b, c⟩ := h.Z hi
    exact ⟨q, a, b, (k q (by omega)).trans c⟩
theorem MSx.setC (h : MSx τ w m A th ba st pb le ri sp ct) (f : Nat → Int) : MSx τ (wset w A.2.2.2.2.2.2.1 (true, eI 5 f)) m A th ba st pb le ri sp f := by
  have t := h.tg
  have k : ∀ a, τ a ≠ 8 → (wset w A.2.2.2.2.2.2.1 (true, eI 5 f)).2 a = w.2 a := fun a ha => wset_n (fun e => ha (by rw [e]; omega))
  refine ⟨(k _ (by omega)).trans h.o, t, ⟨(k _ (by omega)).trans h.b, (k _ (by omega)).trans h.s, (k _ (by omega)).trans h.p, wset_s⟩, ⟨(k _ (by omega)).trans h.l, (k _ (by omega)).trans h.r, (k _ (by omega)).trans h.z⟩, fun i hi => ?_, fun i hi => ?_, fun i hi => ?_⟩
  · obtain ⟨q, a, b, c⟩ := h.L hi
    exact ⟨q, a, b, c.keep (k q (by omega))⟩
  · obtain ⟨q, a, b, c⟩ := h.R hi
    exact ⟨q, a, b, c.keep (k q (by omega))⟩
  · obtain ⟨q, a, b, c⟩ := h.Z hi
    exact ⟨q, a, b, (k q (by omega)).trans c⟩
end
theorem bI_01 (p : Prop) [Decidable p] : bI p = 0 ∨ bI p = 1 := by unfold bI; split <;> omega
theorem narB {p : Prop} [Decidable p] : narrow .boolean (iI (bI p)) = iI (bI p) := nar01 (by unfold bI; split <;> omega)
/-- what others own stays -/
def Keep (τ : Nat → Nat) (w w' : Wd) : Prop := w.1 ≤ w'.1 ∧ ∀ a x, 100 ≤ τ a → w.2 a = some x → w'.2 a = some x
theorem Keep.rf (τ : Nat → Nat) (w : Wd) : Keep τ w w := ⟨Nat.le_refl _, fun _ _ _ h => h⟩
theorem Keep.tr {τ : Nat → Nat} {w u v : Wd} (h : Keep τ w u) (g : Keep τ u v) : Keep τ w v := ⟨Nat.le_trans h.1 g.1, fun a x t e => g.2 a x t (h.2 a x t e)⟩
theorem Keep.ex {τ : Nat → Nat} {w u : Wd} (h : Ex w u) : Keep τ w u := ⟨h.1, fun a x _ e => h.2 a x e⟩
theorem Keep.set {τ : Nat → Nat} {w : Wd} {a : Nat} (e : WdE) (h : τ a < 100) : Keep τ w (wset w a e) := ⟨Nat.le_refl _, fun b x t h' => by rw [wset_n (fun q => by subst q; omega)]; exact h'⟩
theorem MSx.kset {τ : Nat → Nat} {w : Wd} {m : Nat} {A : MA} {th : Int} {ba st pb le ri : Nat → Int} {sp : Nat → Nat → Int} {ct : Nat → Int} (_h : MSx τ w m A th ba st pb le ri sp ct) : True := trivial
set_option maxHeartbeats 4000000 in
set_option maxRecDepth 100000 in
theorem c_X8_thrown (l : Launch) {E : GE} {w : Wd} {τ : Nat → Nat} {m : Nat} {A : MA} {th : Int} {ba st pb le ri : Nat → Int} {sp : Nat → Nat → Int} {ct : Nat → Int} (hM : MSx τ w m A th ba st pb le ri sp ct) (ht : 0 ≤ th ∧ th ≤ 2) : Sp E l yX8_thrown cX8_thrown 1 (some .int) 0 (0) (0) [.ref m] w (fun r w' => r = some (iI th) ∧ w' = w) := by
  refine sp_intro [some (.ref m)] rfl (Nat.le_of_ble_eq_true rfl) pn_X8 ?_
  intro X C hRm hl hnm hQ
  obtain ⟨hRf, hRl, hRc, hRs⟩ := hRm
  refine g_wf (fun hwf => ?_)
  refine g_aload_n C dX8_thrown_0 rfl ?_
  refine g_get (ci := 10) C rfl inTX8 0 (by decide) fl_RX8_41 rfl hM.o rfl dX8_thrown_1 ?_
  exact g_ireturn C hQ dX8_thrown_4 (Nat.le_refl _) (Nat.le_refl _) ⟨rfl, rfl⟩
set_option maxHeartbeats 4000000 in
set_option maxRecDepth 100000 in
theorem c_X8_refuse (l : Launch) {E : GE} {w : Wd} {τ : Nat → Nat} {m : Nat} {A : MA} {th : Int} {ba st pb le ri : Nat → Int} {sp : Nat → Nat → Int} {ct : Nat → Int} (hM : MSx τ w m A th ba st pb le ri sp ct) {y wh : Int} (ht : 0 ≤ th ∧ th ≤ 2) (hy : y = 0 ∨ y = 1) (hwh : 1 ≤ wh ∧ wh ≤ 2) : Sp E l yX8_refuse cX8_refuse 3 (some .boolean) 0 (0) (0) [.ref m, iI y, iI wh] w (fun r w' => ∃ t : Int, r = some (iI (bI (0 < t))) ∧ (y = 1 ∧ th = 0 ∧ t = wh ∨ (y = 0 ∨ th ≠ 0) ∧ t = th) ∧ MSx τ w' m A (t) (ba) (st) (pb) (le) (ri) (sp) (ct) ∧ Keep τ w w') := by
  refine sp_intro [some (.ref m), some (iI y), some (iI wh)] rfl (Nat.le_of_ble_eq_true rfl) pn_X8 ?_
  intro X C hRm hl hnm hQ
  obtain ⟨hRf, hRl, hRc, hRs⟩ := hRm
  refine g_wf (fun hwf => ?_)
  have J16 : ∀ (u : Wd) (t : Int), (y = 1 ∧ th = 0 ∧ t = wh ∨ (y = 0 ∨ th ≠ 0) ∧ t = th) → MSx τ u m A t ba st pb le ri sp ct → Keep τ w u → G E X 3 16 [some (.ref m), some (iI y), some (iI wh)] [] u 0 0 := by
    intro u t ht' hU hK
    refine g_aload_n C dX8_refuse_16 rfl ?_
    refine g_get (ci := 10) C rfl inTX8 0 (by decide) fl_RX8_41 rfl hU.o rfl dX8_refuse_17 ?_
    refine g_if_le (tgt := 27) C dX8_refuse_20 (by decide) (by omega) (fun h20 => ?_) (fun h20 => ?_)
    · refine g_iconst C dX8_refuse_27 ?_
      exact g_zreturn C hQ dX8_refuse_28 rfl (Nat.le_refl _) (Nat.le_refl _) ⟨t, by first | rw [bI_t (by omega)] | rw [bI_f (by omega)], ht', hU, hK⟩
    · refine g_iconst C dX8_refuse_23 ?_
      refine g_goto (tgt := 28) C dX8_refuse_24 (by decide) ?_
      exact g_zreturn C hQ dX8_refuse_28 rfl (Nat.le_refl _) (Nat.le_refl _) ⟨t, by first | rw [bI_t (by omega)] | rw [bI_f (by omega)], ht', hU, hK⟩
  refine g_iload_n C dX8_refuse_0 rfl ?_
  refine g_if_eq (tgt := 16) C dX8_refuse_1 (by decide) (by omega) (fun h1 => ?_) (fun h1 => ?_)
  · first | exact J16 _ _ (by omega) hM (Keep.rf _ _) | exact J16 _ _ (by omega) (hM.setO wh) (Keep.set _ (by have := hM.tg; omega))
  · refine g_aload_n C dX8_refuse_4 rfl ?_
    refine g_get (ci := 10) C rfl inTX8 0 (by decide) fl_RX8_41 rfl hM.o rfl dX8_refuse_5 ?_
    refine g_if_ne (tgt := 16) C dX8_refuse_8 (by decide) (by omega) (fun h8 => ?_) (fun h8 => ?_)
    · first | exact J16 _ _ (by omega) hM (Keep.rf _ _) | exact J16 _ _ (by omega) (hM.setO wh) (Keep.set _ (by have := hM.tg; omega))
    · refine g_aload_n C dX8_refuse_11 rfl ?_
      refine g_iload_n C dX8_refuse_12 rfl ?_
      refine g_put (ci := 10) C rfl inTX8 tyX8 tyX8_ok nmX8 0 (by decide) fl_RX8_41 rfl rfl hM.o (Nat.le_of_ble_eq_true rfl) rfl rfl dX8_refuse_13 ?_
      first | exact J16 _ _ (by omega) hM (Keep.rf _ _) | exact J16 _ _ (by omega) (hM.setO wh) (Keep.set _ (by have := hM.tg; omega))
set_option maxHeartbeats 4000000 in
set_option maxRecDepth 100000 in
theorem c_X8_start (l : Launch) {E : GE} {w : Wd} {τ : Nat → Nat} {m : Nat} {A : MA} {th : Int} {ba st pb le ri : Nat → Int} {sp : Nat → Nat → Int} {ct : Nat → Int} (hM : MSx τ w m A th ba st pb le ri sp ct) {y wh : Int} (hy : y = 0 ∨ y = 1) (hwh : 1 ≤ wh ∧ wh ≤ 2) : Sp E l yX8_start cX8_start 3 (some .boolean) 1 (0) (0) [.ref m, iI y, iI wh] w (fun r w' => ∃ t : Int, r = some (iI y) ∧ (y = 1 ∧ t = wh ∨ y = 0 ∧ t = 0) ∧ MSx τ w' m A (t) (ba) (st) (pb) (le) (ri) (sp) (ct) ∧ Keep τ w w') := by
  refine sp_intro [some (.ref m), some (iI y), some (iI wh)] rfl (Nat.le_of_ble_eq_true rfl) pn_X8 ?_
  intro X C hRm hl hnm hQ
  obtain ⟨hRf, hRl, hRc, hRs⟩ := hRm
  refine g_wf (fun hwf => ?_)
  refine g_aload_n C dX8_start_0 rfl ?_
  refine g_iconst C dX8_start_1 ?_
  refine g_put (ci := 10) C rfl inTX8 tyX8 tyX8_ok nmX8 0 (by decide) fl_RX8_41 rfl rfl hM.o (Nat.le_of_ble_eq_true rfl) rfl rfl dX8_start_2 ?_
  refine g_aload_n C dX8_start_5 rfl ?_
  refine g_iload_n C dX8_start_6 rfl ?_
  refine g_iload_n C dX8_start_7 rfl ?_
  refine g_callV C (c_X8_refuse _ (hM.setO 0) (y := y) (wh := wh) (by omega) hy hwh) (ci := 10) rfl (hM.setO 0).o rfl ml_RX8_45 im_yX8_refuse se_RX8_yX8_refuse in_RX8 co_yX8_refuse hd_X8_refuse rfl ⟨by omega, by omega⟩ rfl (Nat.le_of_ble_eq_true rfl) ⟨by omega, by omega⟩ dX8_start_8 (fun v8 w8 hp8 => ?_)
  obtain ⟨t, rfl, ht, hU, hK⟩ := hp8
  exact g_zreturn C hQ dX8_start_11 narB (Nat.le_refl _) (Nat.le_refl _) ⟨t, by rcases hy with q | q <;> subst q <;> first | rw [bI_t (by omega)] | rw [bI_f (by omega)], by omega, hU, (Keep.set _ (by have := hM.tg; omega)).tr hK⟩
set_option maxHeartbeats 4000000 in
set_option maxRecDepth 100000 in
theorem c_X8_done (l : Launch) {E : GE} {w : Wd} {τ : Nat → Nat} {m : Nat} {A : MA} {th : Int} {ba st pb le ri : Nat → Int} {sp : Nat → Nat → Int} {ct : Nat → Int} (hM : MSx τ w m A th ba st pb le ri sp ct) {kd to : Int} (hk : 0 ≤ kd ∧ kd ≤ 4) : Sp E l yX8_done cX8_done 3 (some .int) 0 (0) (0) [.ref m, iI kd, iI to] w (fun r w' => r = some (iI to) ∧ MSx τ w' m A (th) (ba) (st) (pb) (le) (ri) (sp) (iup ct kd.toNat (ct kd.toNat + 1)) ∧ Keep τ w w') := by
  refine sp_intro [some (.ref m), some (iI kd), some (iI to)] rfl (Nat.le_of_ble_eq_true rfl) pn_X8 ?_
  intro X C hRm hl hnm hQ
  obtain ⟨hRf, hRl, hRc, hRs⟩ := hRm
  refine g_wf (fun hwf => ?_)
  refine g_aload_n C dX8_done_0 rfl ?_
  refine g_get (ci := 10) C rfl inTX8 7 (by decide) fl_RX8_38 rfl hM.o rfl dX8_done_1 ?_
  refine g_iload_n C dX8_done_4 rfl ?_
  refine g_dup2 C dX8_done_5 rfl rfl ?_
  refine g_ialoadN (kd.toNat) C hM.c (by omega) (by omega) dX8_done_6 ?_
  refine g_iconst C dX8_done_7 ?_
  refine g_iadd C dX8_done_8 ?_
  refine g_iastoreN (kd.toNat) C hM.c (by omega) (by omega) dX8_done_9 ?_
  refine g_iload_n C dX8_done_10 rfl ?_
  exact g_ireturn C hQ dX8_done_11 (Nat.le_refl _) (Nat.le_refl _) ⟨rfl, hM.setC _, Keep.set _ (by have := hM.tg; omega)⟩
set_option maxHeartbeats 4000000 in
set_option maxRecDepth 100000 in
theorem c_X8_cannot (l : Launch) {E : GE} {w : Wd} {τ : Nat → Nat} {m : Nat} {A : MA} {th : Int} {ba st pb le ri : Nat → Int} {sp : Nat → Nat → Int} {ct : Nat → Int} (hM : MSx τ w m A th ba st pb le ri sp ct) : Sp E l yX8_cannot cX8_cannot 1 (some .int) 0 (0) (0) [.ref m] w (fun r w' => r = some (iI (-9)) ∧ MSx τ w' m A (th) (ba) (st) (pb) (le) (ri) (sp) (iup ct 3 (ct 3 + 1)) ∧ Keep τ w w') := by
  refine sp_intro [some (.ref m)] rfl (Nat.le_of_ble_eq_true rfl) pn_X8 ?_
  intro X C hRm hl hnm hQ
  obtain ⟨hRf, hRl, hRc, hRs⟩ := hRm
  refine g_wf (fun hwf => ?_)
  refine g_aload_n C dX8_cannot_0 rfl ?_
  refine g_get (ci := 10) C rfl inTX8 7 (by decide) fl_RX8_38 rfl hM.o rfl dX8_cannot_1 ?_
  refine g_iconst C dX8_cannot_4 ?_
  refine g_dup2 C dX8_cannot_5 rfl rfl ?_
  refine g_ialoadN (3) C hM.c (by omega) (by omega) dX8_cannot_6 ?_
  refine g_iconst C dX8_cannot_7 ?_
  refine g_iadd C dX8_cannot_8 ?_
  refine g_iastoreN (3) C hM.c (by omega) (by omega) dX8_cannot_9 ?_
  refine g_bipush C dX8_cannot_10 (by decide) ?_
  exact g_ireturn C hQ dX8_cannot_12 (Nat.le_refl _) (Nat.le_refl _) ⟨rfl, hM.setC _, Keep.set _ (by have := hM.tg; omega)⟩
set_option maxHeartbeats 4000000 in
set_option maxRecDepth 100000 in
theorem c_X8_leastOf (l : Launch) {E : GE} {w : Wd} {b r : Int} (hb : GB b) (hr : RT b r) : Sp E l yX8_leastOf cX8_leastOf 2 (some (.array (.array .int))) 3 (26) (96) [iI b] w (fun r1 w' => ∃ q p : Nat, r1 = some (.ref q) ∧ isPer b r p ∧ R4 w.1 w' q (pq b r 1 r ((if p % 2 = 0 then p else 2 * p) - 1)).1 (pq b r 0 1 ((if p % 2 = 0 then p else 2 * p) - 1)).1 (pq b r 1 r ((if p % 2 = 0 then p else 2 * p) - 1)).2 (pq b r 0 1 ((if p % 2 = 0 then p else 2 * p) - 1)).2 ∧ Ex w w' ∧ w.1 ≤ q) := by
  refine sp_intro [some (iI b), none] rfl (Nat.le_of_ble_eq_true rfl) pn_X8 ?_
  intro X C hRm hl hnm hQ
  obtain ⟨hRf, hRl, hRc, hRs⟩ := hRm
  refine g_wf (fun hwf => ?_)
  refine g_iload_n C dX8_leastOf_0 rfl ?_
  refine g_callS C (c_X8_periodOf _ (b := b) (r := r) hb hr) ml_RX8_142 sm_yX8_periodOf in_RX8 co_yX8_periodOf hd_X8_periodOf rfl ⟨by omega, by omega⟩ rfl (Nat.le_of_ble_eq_true rfl) ⟨by omega, by omega⟩ dX8_leastOf_1 (fun v1 w1 hp1 => ?_)
  obtain ⟨p, rfl, hp, hx1⟩ := hp1
  refine g_istore_n C dX8_leastOf_4 (by decide) rfl ?_
  have hpo := per_odd hb hr hp
  have hp1' := hp.1
  have hp2' := hp.2.1
  refine g_wf (fun hwf1 => ?_)
  have J19 : ∀ z : Int, z = (((if p % 2 = 0 then p else 2 * p) : Nat) : Int) → G E X 2 19 [some (iI b), some (iI (p : Int))] [iI z, iI b] w1 16 48 := by
    intro z hz
    refine g_iconst C dX8_leastOf_19 ?_
    refine g_isub C dX8_leastOf_20 ?_
    refine g_eq (st' := [iI (((if p % 2 = 0 then p else 2 * p) - 1 : Nat) : Int), iI b]) rfl (by rw [hz, show (((if p % 2 = 0 then p else 2 * p : Nat)) : Int) - 1 = (((if p % 2 = 0 then p else 2 * p) - 1 : Nat) : Int) by split <;> omega]) ?_
    refine g_callS C (c_X8_walked _ (b := b) (r := r) (K := (if p % 2 = 0 then p else 2 * p) - 1) hb hr (by split <;> omega)) ml_RX8_134 sm_yX8_walked in_RX8 co_yX8_walked hd_X8_walked rfl ⟨by omega, by omega⟩ rfl (Nat.le_of_ble_eq_true rfl) ⟨by omega, by omega⟩ dX8_leastOf_21 (fun v21 w21 hp21 => ?_)
    obtain ⟨q21, rfl, hR21, hf21, hq21⟩ := hp21
    exact g_areturn C (Or.inr ⟨_, rfl⟩) hQ (Or.inr ⟨_, rfl⟩) dX8_leastOf_24 (by omega) (by omega) ⟨q21, p, rfl, hp, by obtain ⟨R, a0, a1, a2, a3, x0, x1, x2, x3, x4, x5, x6, x7, x8, x9⟩ := hR21; exact ⟨R, a0, a1, a2, a3, x0, x1, x2, x3, x4, x5, x6, x7, x8, by have := hx1.1; omega⟩, hx1.tr (hf21.ex hwf1), by have := hx1.1; omega⟩
  refine g_iload_n C dX8_leastOf_5 rfl ?_
  refine g_iload_n C dX8_leastOf_6 rfl ?_
  refine g_iconst C dX8_leastOf_7 ?_
  refine g_iremN C dX8_leastOf_8 (by omega) (by omega) ?_
  refine g_if_ne (tgt := 16) C dX8_leastOf_9 (by decide) (by omega) (fun h9 => ?_) (fun h9 => ?_)
  · refine g_iconst C dX8_leastOf_16 ?_
    refine g_iload_n C dX8_leastOf_17 rfl ?_
    refine g_imul C dX8_leastOf_18 ?_
    exact J19 _ (by first | (rw [if_pos (by omega)]) | (rw [if_neg (by omega)]; omega))
  · refine g_iload_n C dX8_leastOf_12 rfl ?_
    refine g_goto (tgt := 19) C dX8_leastOf_13 (by decide) ?_
    exact J19 _ (by first | (rw [if_pos (by omega)]) | (rw [if_neg (by omega)]; omega))
set_option maxHeartbeats 4000000 in
set_option maxRecDepth 100000 in
theorem c_X8_at (l : Launch) {E : GE} {w : Wd} {τ : Nat → Nat} {m : Nat} {A : MA} {th : Int} {ba st pb le ri : Nat → Int} {sp : Nat → Nat → Int} {ct : Nat → Int} (hM : MSx τ w m A th ba st pb le ri sp ct) {i : Nat} {r : Int} (hi : i < 3) (hb : GB (ba i)) (hr : RT (ba i) r) (hs : 0 ≤ st i ∧ st i ≤ 24) : Sp E l yX8_at cX8_at 2 (some (.array (.array .int))) 2 (10) (48) [.ref m, iI (i : Int)] w (fun r1 w' => ∃ q : Nat, r1 = some (.ref q) ∧ R4 w.1 w' q (pq (ba i) r 1 r (st i).toNat).1 (pq (ba i) r 0 1 (st i).toNat).1 (pq (ba i) r 1 r (st i).toNat).2 (pq (ba i) r 0 1 (st i).toNat).2 ∧ Ex w w' ∧ w.1 ≤ q) := by
  refine sp_intro [some (.ref m), some (iI (i : Int))] rfl (Nat.le_of_ble_eq_true rfl) pn_X8 ?_
  intro X C hRm hl hnm hQ
  obtain ⟨hRf, hRl, hRc, hRs⟩ := hRm
  refine g_wf (fun hwf => ?_)
  refine g_aload_n C dX8_at_0 rfl ?_
  refine g_get (ci := 10) C rfl inTX8 1 (by decide) fl_RX8_9 rfl hM.o rfl dX8_at_1 ?_
  refine g_iload_n C dX8_at_4 rfl ?_
  refine g_ialoadN (i) C hM.b (by omega) (by omega) dX8_at_5 ?_
  refine g_aload_n C dX8_at_6 rfl ?_
  refine g_get (ci := 10) C rfl inTX8 2 (by decide) fl_RX8_13 rfl hM.o rfl dX8_at_7 ?_
  refine g_iload_n C dX8_at_10 rfl ?_
  refine g_ialoadN (i) C hM.s (by omega) (by omega) dX8_at_11 ?_
  rw [show st i = (((st i).toNat : Nat) : Int) by omega]
  refine g_callS C (c_X8_walked _ (b := ba i) (r := r) (K := (st i).toNat) hb hr (by omega)) ml_RX8_134 sm_yX8_walked in_RX8 co_yX8_walked hd_X8_walked rfl ⟨by omega, by omega⟩ rfl (Nat.le_of_ble_eq_true rfl) ⟨by omega, by omega⟩ dX8_at_12 (fun v12 w12 hp12 => ?_)
  obtain ⟨q12, rfl, hR12, hf12, hq12⟩ := hp12
  exact g_areturn C (Or.inr ⟨_, rfl⟩) hQ (Or.inr ⟨_, rfl⟩) dX8_at_15 (by omega) (by omega) ⟨q12, rfl, hR12, hf12.ex hwf, hq12⟩
set_option maxHeartbeats 4000000 in
set_option maxRecDepth 100000 in
theorem c_X8_open (l : Launch) {E : GE} {w : Wd} {walk b : Int} (h_walk : -2147483648 ≤ walk ∧ walk < 2147483648) (h_b : -2147483648 ≤ b ∧ b < 2147483648) {τ : Nat → Nat} {m : Nat} {A : MA} {th : Int} {ba st pb le ri : Nat → Int} {sp : Nat → Nat → Int} {ct : Nat → Int} (hM : MSx τ w m A th ba st pb le ri sp ct) : Sp E l yX8_open cX8_open 3 (some .int) 2 (0) (0) [.ref m, iI walk, iI b] w (fun r w' => ∃ (t : Int) (ba' st' ct' : Nat → Int) (ans : Int), r = some (iI ans) ∧ MSx τ w' m A (t) (ba') (st') (pb) (le) (ri) (sp) (ct') ∧ Keep τ w w' ∧ (¬ (0 ≤ walk ∧ walk ≤ 2) ∧ t = 1 ∧ ans = 0 ∧ ba' = ba ∧ st' = st ∧ ct' = ct ∨ (0 ≤ walk ∧ walk ≤ 2) ∧ ¬ GB b ∧ t = 2 ∧ ans = 0 ∧ ba' = ba ∧ st' = st ∧ ct' = ct ∨ (0 ≤ walk ∧ walk ≤ 2) ∧ GB b ∧ t = 0 ∧ RT b ans ∧ ba' = iup ba walk.toNat b ∧ st' = iup st walk.toNat 0 ∧ ct' = iup ct 0 (ct 0 + 1))) := by
  refine sp_intro [some (.ref m), some (iI walk), some (iI b)] rfl (Nat.le_of_ble_eq_true rfl) pn_X8 ?_
  intro X C hRm hl hnm hQ
  obtain ⟨hRf, hRl, hRc, hRs⟩ := hRm
  refine g_wf (fun hwf => ?_)
  refine g_aload_n C dX8_open_0 rfl ?_
  refine g_iload_n C dX8_open_1 rfl ?_
  refine g_callS C (c_X8_isNo _ (v := walk) h_walk) ml_RX8_145 sm_yX8_isNo in_RX8 co_yX8_isNo hd_X8_isNo rfl ⟨by omega, by omega⟩ rfl (Nat.le_of_ble_eq_true rfl) ⟨by omega, by omega⟩ dX8_open_2 (fun v2 w2 hp2 => ?_)
  obtain ⟨rfl, hw2⟩ := hp2
  subst w2
  refine g_iconst C dX8_open_5 ?_
  refine g_callV C (c_X8_start _ hM (wh := 1) (bI_01 _) (by omega)) (ci := 10) rfl hM.o rfl ml_RX8_149 im_yX8_start se_RX8_yX8_start in_RX8 co_yX8_start hd_X8_start rfl ⟨by omega, by omega⟩ rfl (Nat.le_of_ble_eq_true rfl) ⟨by omega, by omega⟩ dX8_open_6 (fun v6 w6 hp6 => ?_)
  obtain ⟨t6, rfl, ht6, hM6, hK6⟩ := hp6
  refine g_if_ne (tgt := 24) C dX8_open_9 (by decide) (by rcases bI_01 (¬ (0 ≤ walk ∧ walk ≤ 2)) with q | q <;> omega) (fun h9 => ?_) (fun h9 => ?_)
  · refine g_iconst C dX8_open_24 ?_
    exact g_ireturn C hQ dX8_open_25 (Nat.le_refl _) (Nat.le_refl _) (by
      first
      | exact ⟨t, ba, st, ct, 0, rfl, hM18, hK6.tr hK18, Or.inr (Or.inl ⟨hwk, by rcases hy with q | q; exact absurd (bI_1 h21) (by omega); exact q.2, by have := bI_1 h21; omega, rfl, rfl, rfl, rfl⟩)⟩
      | exact ⟨t6, ba, st, ct, 0, rfl, hM6, hK6, Or.inl ⟨bI_1 h9, by omega, rfl, rfl, rfl, rfl⟩⟩)
  · refine g_aload_n C dX8_open_12 rfl ?_
    refine g_iload_n C dX8_open_13 rfl ?_
    refine g_callS C (c_X8_isNoBase _ (v := b) h_b) ml_RX8_152 sm_yX8_isNoBase in_RX8 co_yX8_isNoBase hd_X8_isNoBase rfl ⟨by omega, by omega⟩ rfl (Nat.le_of_ble_eq_true rfl) ⟨by omega, by omega⟩ dX8_open_14 (fun v14 w14 hp14 => ?_)
    obtain ⟨⟨y, rfl, hy⟩, hw14⟩ := hp14
    subst w14
    refine g_iconst C dX8_open_17 ?_
    refine g_callV C (c_X8_refuse _ hM6 (y := y) (wh := 2) (by rcases ht6 with q | q <;> omega) (by rcases hy with q | q <;> omega) (by omega)) (ci := 10) rfl hM6.o rfl ml_RX8_45 im_yX8_refuse se_RX8_yX8_refuse in_RX8 co_yX8_refuse hd_X8_refuse rfl ⟨by omega, by omega⟩ rfl (Nat.le_of_ble_eq_true rfl) ⟨by omega, by omega⟩ dX8_open_18 (fun v18 w18 hp18 => ?_)
    obtain ⟨t, rfl, ht, hM18, hK18⟩ := hp18
    have hz : t6 = 0 := by rcases ht6 with q | q <;> omega
    have hwk : 0 ≤ walk ∧ walk ≤ 2 := Classical.not_not.mp (bI_0 (Classical.not_not.mp h9))
    refine g_if_eq (tgt := 26) C dX8_open_21 (by decide) (by rcases bI_01 (0 < t) with q | q <;> omega) (fun h21 => ?_) (fun h21 => ?_)
    · have htz : ¬ (0 < t) := bI_0 h21
      have hg : GB b := by rcases hy with q | q; exact q.2; omega
      have ht0 : t = 0 := by omega
      refine g_aload_n C dX8_open_26 rfl ?_
      refine g_get (ci := 10) C rfl inTX8 1 (by decide) fl_RX8_9 rfl hM18.o rfl dX8_open_27 ?_
      refine g_iload_n C dX8_open_30 rfl ?_
      refine g_iload_n C dX8_open_31 rfl ?_
      refine g_iastoreN (walk.toNat) C hM18.b (by omega) (by omega) dX8_open_32 ?_
      refine g_aload_n C dX8_open_33 rfl ?_
      refine g_get (ci := 10) C rfl inTX8 2 (by decide) fl_RX8_13 rfl (hM18.setB _).o rfl dX8_open_34 ?_
      refine g_iload_n C dX8_open_37 rfl ?_
      refine g_iconst C dX8_open_38 ?_
      refine g_iastoreN (walk.toNat) C (hM18.setB _).s (by omega) (by omega) dX8_open_39 ?_
      refine g_aload_n C dX8_open_40 rfl ?_
      refine g_iconst C dX8_open_41 ?_
      refine g_iload_n C dX8_open_42 rfl ?_
      refine g_callS C (c_X8_root _ (b := b) (by have := hg.1; have := hg.2.1; omega)) ml_RX8_130 sm_yX8_root in_RX8 co_yX8_root hd_X8_root rfl ⟨by omega, by omega⟩ rfl (Nat.le_of_ble_eq_true rfl) ⟨by omega, by omega⟩ dX8_open_43 (fun v43 w43 hp43 => ?_)
      obtain ⟨⟨rr, rfl, q1, q2, q3⟩, hw43⟩ := hp43
      subst w43
      refine g_callV C (c_X8_done _ ((hM18.setB (iup ba walk.toNat b)).setS (iup st walk.toNat 0)) (kd := 0) (to := rr) (by omega)) (ci := 10) rfl ((hM18.setB _).setS _).o rfl ml_RX8_155 im_yX8_done se_RX8_yX8_done in_RX8 co_yX8_done hd_X8_done rfl ⟨by omega, by omega⟩ rfl (Nat.le_of_ble_eq_true rfl) ⟨by omega, by omega⟩ dX8_open_46 (fun v46 w46 hp46 => ?_)
      obtain ⟨rfl, hM46, hK46⟩ := hp46
      exact g_ireturn C hQ dX8_open_49 (Nat.le_refl _) (Nat.le_refl _) ⟨t, _, _, _, rr, rfl, hM46, ((hK6.tr hK18).tr ((Keep.set _ (by have := hM18.tg; omega)).tr (Keep.set _ (by have := hM18.tg; omega)))).tr hK46, Or.inr (Or.inr ⟨hwk, hg, by omega, ⟨q1, q2, q3⟩, rfl, rfl, rfl⟩)⟩
    · refine g_iconst C dX8_open_24 ?_
      exact g_ireturn C hQ dX8_open_25 (Nat.le_refl _) (Nat.le_refl _) (by
        first
        | exact ⟨t, ba, st, ct, 0, rfl, hM18, hK6.tr hK18, Or.inr (Or.inl ⟨hwk, by rcases hy with q | q; exact absurd (bI_1 h21) (by omega); exact q.2, by have := bI_1 h21; omega, rfl, rfl, rfl, rfl⟩)⟩
        | exact ⟨t6, ba, st, ct, 0, rfl, hM6, hK6, Or.inl ⟨bI_1 h9, by omega, rfl, rfl, rfl, rfl⟩⟩)
set_option maxHeartbeats 4000000 in
set_option maxRecDepth 100000 in
theorem c_X8_forth (l : Launch) {E : GE} {w : Wd} {walk many : Int} (h_walk : -2147483648 ≤ walk ∧ walk < 2147483648) (h_many : -2147483648 ≤ many ∧ many < 2147483648) {τ : Nat → Nat} {m : Nat} {A : MA} {th : Int} {ba st pb le ri : Nat → Int} {sp : Nat → Nat → Int} {ct : Nat → Int} (hM : MSx τ w m A th ba st pb le ri sp ct) (hS : ∀ i, i < 3 → 0 ≤ st i ∧ st i ≤ 24) : Sp E l yX8_forth cX8_forth 3 (some .int) 2 (0) (0) [.ref m, iI walk, iI many] w (fun r w' => ∃ (t : Int) (st' ct' : Nat → Int) (ans : Int), r = some (iI ans) ∧ MSx τ w' m A (t) (ba) (st') (pb) (le) (ri) (sp) (ct') ∧ Keep τ w w' ∧ (¬ (0 ≤ walk ∧ walk ≤ 2) ∧ t = 1 ∧ ans = 0 ∧ st' = st ∧ ct' = ct ∨ (0 ≤ walk ∧ walk ≤ 2) ∧ ¬ (1 ≤ many ∧ many ≤ 6) ∧ t = 2 ∧ ans = 0 ∧ st' = st ∧ ct' = ct ∨ (0 ≤ walk ∧ walk ≤ 2) ∧ (1 ≤ many ∧ many ≤ 6) ∧ t = 0 ∧ 24 < st walk.toNat + many ∧ ans = -9 ∧ st' = st ∧ ct' = iup ct 3 (ct 3 + 1) ∨ (0 ≤ walk ∧ walk ≤ 2) ∧ (1 ≤ many ∧ many ≤ 6) ∧ t = 0 ∧ st walk.toNat + many ≤ 24 ∧ ans = st walk.toNat + many ∧ st' = iup st walk.toNat (st walk.toNat + many) ∧ ct' = iup ct 0 (ct 0 + 1))) := by
  refine sp_intro [some (.ref m), some (iI walk), some (iI many)] rfl (Nat.le_of_ble_eq_true rfl) pn_X8 ?_
  intro X C hRm hl hnm hQ
  obtain ⟨hRf, hRl, hRc, hRs⟩ := hRm
  refine g_wf (fun hwf => ?_)
  refine g_aload_n C dX8_forth_0 rfl ?_
  refine g_iload_n C dX8_forth_1 rfl ?_
  refine g_callS C (c_X8_isNo _ (v := walk) h_walk) ml_RX8_145 sm_yX8_isNo in_RX8 co_yX8_isNo hd_X8_isNo rfl ⟨by omega, by omega⟩ rfl (Nat.le_of_ble_eq_true rfl) ⟨by omega, by omega⟩ dX8_forth_2 (fun v2 w2 hp2 => ?_)
  obtain ⟨rfl, hw2⟩ := hp2
  subst w2
  refine g_iconst C dX8_forth_5 ?_
  refine g_callV C (c_X8_start _ hM (y := bI (¬ (0 ≤ walk ∧ walk ≤ 2))) (wh := 1) (bI_01 _) (by omega)) (ci := 10) rfl hM.o rfl ml_RX8_149 im_yX8_start se_RX8_yX8_start in_RX8 co_yX8_start hd_X8_start rfl ⟨by omega, by omega⟩ rfl (Nat.le_of_ble_eq_true rfl) ⟨by omega, by omega⟩ dX8_forth_6 (fun v6 w6 hp6 => ?_)
  obtain ⟨t6, rfl, ht6, hM6, hK6⟩ := hp6
  have hy6 : (bI (¬ (0 ≤ walk ∧ walk ≤ 2))) = 0 ∨ (bI (¬ (0 ≤ walk ∧ walk ≤ 2))) = 1 := (bI_01 _)
  refine g_if_ne (tgt := 35) C dX8_forth_9 (by decide) (bI_r _) (fun h9 => ?_) (fun h9 => ?_)
  · refine g_iconst C dX8_forth_35 ?_
    exact g_ireturn C hQ dX8_forth_36 (Nat.le_refl _) (Nat.le_refl _) (by
      first
      | exact ⟨t, st, ct, 0, rfl, hM7, hK67, Or.inr (Or.inl ⟨hwk, by have := bI_1 h32; omega, by have := bI_1 h32; omega, rfl, rfl, rfl⟩)⟩
      | exact ⟨t6, st, ct, 0, rfl, hM6, hK6, Or.inl ⟨bI_1 h9, by omega, rfl, rfl, rfl⟩⟩)
  · refine g_aload_n C dX8_forth_12 rfl ?_
    refine g_iload_n C dX8_forth_13 rfl ?_
    refine g_iconst C dX8_forth_14 ?_
    refine g_bipush C dX8_forth_15 (by decide) ?_
    refine g_callS C (c_X8_isIn _ (v := many) (a := 1) (b := 6) h_many (by omega) (by omega)) ml_RX8_49 sm_yX8_isIn in_RX8 co_yX8_isIn hd_X8_isIn rfl ⟨by omega, by omega⟩ rfl (Nat.le_of_ble_eq_true rfl) ⟨by omega, by omega⟩ dX8_forth_17 (fun v17 w17 hp17 => ?_)
    obtain ⟨rfl, hw17⟩ := hp17
    subst w17
    have J28 : ∀ y : Int, (y = 0 ∧ (1 ≤ many ∧ many ≤ 6) ∨ y = 1 ∧ ¬ (1 ≤ many ∧ many ≤ 6)) → G E X 3 28 [some (.ref m), some (iI walk), some (iI many)] [iI y, .ref m] w6 0 0 := by
      intro y hy
      have hwk : 0 ≤ walk ∧ walk ≤ 2 := Classical.not_not.mp (bI_0 (Classical.not_not.mp h9))
      refine g_iconst C dX8_forth_28 ?_
      refine g_callV C (c_X8_refuse _ hM6 (y := y) (wh := 2) (by omega) (by omega) (by omega)) (ci := 10) rfl hM6.o rfl ml_RX8_45 im_yX8_refuse se_RX8_yX8_refuse in_RX8 co_yX8_refuse hd_X8_refuse rfl ⟨by omega, by omega⟩ rfl (Nat.le_of_ble_eq_true rfl) ⟨by omega, by omega⟩ dX8_forth_29 (fun v29 w29 hp29 => ?_)
      obtain ⟨t, rfl, ht, hM7, hK7⟩ := hp29
      have hy7 : (y) = 0 ∨ (y) = 1 := (by omega)
      have hK67 := hK6.tr hK7
      refine g_if_eq (tgt := 37) C dX8_forth_32 (by decide) (bI_r _) (fun h32 => ?_) (fun h32 => ?_)
      · have htz : ¬ (0 < t) := bI_0 h32
        have hs := hS walk.toNat (by omega)
        refine g_aload_n C dX8_forth_37 rfl ?_
        refine g_get (ci := 10) C rfl inTX8 2 (by decide) fl_RX8_13 rfl hM7.o rfl dX8_forth_38 ?_
        refine g_iload_n C dX8_forth_41 rfl ?_
        refine g_ialoadN (walk.toNat) C hM7.s (by omega) (by omega) dX8_forth_42 ?_
        refine g_iload_n C dX8_forth_43 rfl ?_
        refine g_iadd C dX8_forth_44 ?_
        refine g_bipush C dX8_forth_45 (by decide) ?_
        refine g_icmp_le (tgt := 55) C dX8_forth_47 (by decide) (by omega) (by omega) (fun h47 => ?_) (fun h47 => ?_)
        · refine g_aload_n C dX8_forth_55 rfl ?_
          refine g_get (ci := 10) C rfl inTX8 2 (by decide) fl_RX8_13 rfl hM7.o rfl dX8_forth_56 ?_
          refine g_iload_n C dX8_forth_59 rfl ?_
          refine g_dup2 C dX8_forth_60 rfl rfl ?_
          refine g_ialoadN (walk.toNat) C hM7.s (by omega) (by omega) dX8_forth_61 ?_
          refine g_iload_n C dX8_forth_62 rfl ?_
          refine g_iadd C dX8_forth_63 ?_
          refine g_iastoreN (walk.toNat) C hM7.s (by omega) (by omega) dX8_forth_64 ?_
          refine g_aload_n C dX8_forth_65 rfl ?_
          refine g_iconst C dX8_forth_66 ?_
          refine g_aload_n C dX8_forth_67 rfl ?_
          refine g_get (ci := 10) C rfl inTX8 2 (by decide) fl_RX8_13 rfl (hM7.setS _).o rfl dX8_forth_68 ?_
          refine g_iload_n C dX8_forth_71 rfl ?_
          refine g_ialoadN (walk.toNat) C (hM7.setS _).s (by omega) (by omega) dX8_forth_72 ?_
          rw [iup_s]
          refine g_callV C (c_X8_done _ (hM7.setS _) (kd := 0) (to := st walk.toNat + many) (by omega)) (ci := 10) rfl (hM7.setS _).o rfl ml_RX8_155 im_yX8_done se_RX8_yX8_done in_RX8 co_yX8_done hd_X8_done rfl ⟨by omega, by omega⟩ rfl (Nat.le_of_ble_eq_true rfl) ⟨by omega, by omega⟩ dX8_forth_73 (fun v73 w73 hp73 => ?_)
          obtain ⟨rfl, hM9, hK9⟩ := hp73
          exact g_ireturn C hQ dX8_forth_76 (Nat.le_refl _) (Nat.le_refl _) ⟨t, _, _, _, rfl, hM9, (hK67.tr (Keep.set _ (by have := hM7.tg; omega))).tr hK9, Or.inr (Or.inr (Or.inr ⟨hwk, by omega, by omega, by omega, rfl, rfl, rfl⟩))⟩
        · refine g_aload_n C dX8_forth_50 rfl ?_
          refine g_callV C (c_X8_cannot _ hM7) (ci := 10) rfl hM7.o rfl ml_RX8_158 im_yX8_cannot se_RX8_yX8_cannot in_RX8 co_yX8_cannot hd_X8_cannot rfl ⟨by omega, by omega⟩ rfl (Nat.le_of_ble_eq_true rfl) ⟨by omega, by omega⟩ dX8_forth_51 (fun v51 w51 hp51 => ?_)
          obtain ⟨rfl, hM9, hK9⟩ := hp51
          exact g_ireturn C hQ dX8_forth_54 (Nat.le_refl _) (Nat.le_refl _) ⟨t, st, _, -9, rfl, hM9, hK67.tr hK9, Or.inr (Or.inr (Or.inl ⟨hwk, by omega, by omega, by omega, rfl, rfl, rfl⟩))⟩
      · refine g_iconst C dX8_forth_35 ?_
        exact g_ireturn C hQ dX8_forth_36 (Nat.le_refl _) (Nat.le_refl _) (by
          first
          | exact ⟨t, st, ct, 0, rfl, hM7, hK67, Or.inr (Or.inl ⟨hwk, by have := bI_1 h32; omega, by have := bI_1 h32; omega, rfl, rfl, rfl⟩)⟩
          | exact ⟨t6, st, ct, 0, rfl, hM6, hK6, Or.inl ⟨bI_1 h9, by omega, rfl, rfl, rfl⟩⟩)
    refine g_if_ne (tgt := 27) C dX8_forth_20 (by decide) (bI_r _) (fun h20 => ?_) (fun h20 => ?_)
    · refine g_iconst C dX8_forth_27 ?_
      exact J28 _ (by first | exact Or.inl ⟨rfl, bI_1 h20⟩ | exact Or.inr ⟨rfl, bI_0 (Classical.not_not.mp h20)⟩)
    · refine g_iconst C dX8_forth_23 ?_
      refine g_goto (tgt := 28) C dX8_forth_24 (by decide) ?_
      exact J28 _ (by first | exact Or.inl ⟨rfl, bI_1 h20⟩ | exact Or.inr ⟨rfl, bI_0 (Classical.not_not.mp h20)⟩)
set_option maxHeartbeats 4000000 in
set_option maxRecDepth 100000 in
theorem c_X8_back (l : Launch) {E : GE} {w : Wd} {walk : Int} (h_walk : -2147483648 ≤ walk ∧ walk < 2147483648) {τ : Nat → Nat} {m : Nat} {A : MA} {th : Int} {ba st pb le ri : Nat → Int} {sp : Nat → Nat → Int} {ct : Nat → Int} (hM : MSx τ w m A th ba st pb le ri sp ct) (hS : ∀ i, i < 3 → 0 ≤ st i ∧ st i ≤ 24) : Sp E l yX8_back cX8_back 2 (some .int) 2 (0) (0) [.ref m, iI walk] w (fun r w' => ∃ (t : Int) (st' ct' : Nat → Int) (ans : Int), r = some (iI ans) ∧ MSx τ w' m A (t) (ba) (st') (pb) (le) (ri) (sp) (ct') ∧ Keep τ w w' ∧ (¬ (0 ≤ walk ∧ walk ≤ 2) ∧ t = 1 ∧ ans = 0 ∧ st' = st ∧ ct' = ct ∨ (0 ≤ walk ∧ walk ≤ 2) ∧ t = 0 ∧ st walk.toNat = 0 ∧ ans = -9 ∧ st' = st ∧ ct' = iup ct 3 (ct 3 + 1) ∨ (0 ≤ walk ∧ walk ≤ 2) ∧ t = 0 ∧ 0 < st walk.toNat ∧ ans = st walk.toNat - 1 ∧ st' = iup st walk.toNat (st walk.toNat - 1) ∧ ct' = iup ct 0 (ct 0 + 1))) := by
  refine sp_intro [some (.ref m), some (iI walk)] rfl (Nat.le_of_ble_eq_true rfl) pn_X8 ?_
  intro X C hRm hl hnm hQ
  obtain ⟨hRf, hRl, hRc, hRs⟩ := hRm
  refine g_wf (fun hwf => ?_)
  refine g_aload_n C dX8_back_0 rfl ?_
  refine g_iload_n C dX8_back_1 rfl ?_
  refine g_callS C (c_X8_isNo _ (v := walk) h_walk) ml_RX8_145 sm_yX8_isNo in_RX8 co_yX8_isNo hd_X8_isNo rfl ⟨by omega, by omega⟩ rfl (Nat.le_of_ble_eq_true rfl) ⟨by omega, by omega⟩ dX8_back_2 (fun v2 w2 hp2 => ?_)
  obtain ⟨rfl, hw2⟩ := hp2
  subst w2
  refine g_iconst C dX8_back_5 ?_
  refine g_callV C (c_X8_start _ hM (y := bI (¬ (0 ≤ walk ∧ walk ≤ 2))) (wh := 1) (bI_01 _) (by omega)) (ci := 10) rfl hM.o rfl ml_RX8_149 im_yX8_start se_RX8_yX8_start in_RX8 co_yX8_start hd_X8_start rfl ⟨by omega, by omega⟩ rfl (Nat.le_of_ble_eq_true rfl) ⟨by omega, by omega⟩ dX8_back_6 (fun v6 w6 hp6 => ?_)
  obtain ⟨t6, rfl, ht6, hM6, hK6⟩ := hp6
  have hy6 : (bI (¬ (0 ≤ walk ∧ walk ≤ 2))) = 0 ∨ (bI (¬ (0 ≤ walk ∧ walk ≤ 2))) = 1 := (bI_01 _)
  refine g_if_eq (tgt := 14) C dX8_back_9 (by decide) (bI_r _) (fun h9 => ?_) (fun h9 => ?_)
  · have hwk : 0 ≤ walk ∧ walk ≤ 2 := Classical.not_not.mp (bI_0 h9)
    have hs := hS walk.toNat (by omega)
    refine g_aload_n C dX8_back_14 rfl ?_
    refine g_get (ci := 10) C rfl inTX8 2 (by decide) fl_RX8_13 rfl hM6.o rfl dX8_back_15 ?_
    refine g_iload_n C dX8_back_18 rfl ?_
    refine g_ialoadN (walk.toNat) C hM6.s (by omega) (by omega) dX8_back_19 ?_
    refine g_if_ne (tgt := 28) C dX8_back_20 (by decide) (by omega) (fun h20 => ?_) (fun h20 => ?_)
    · refine g_aload_n C dX8_back_28 rfl ?_
      refine g_get (ci := 10) C rfl inTX8 2 (by decide) fl_RX8_13 rfl hM6.o rfl dX8_back_29 ?_
      refine g_iload_n C dX8_back_32 rfl ?_
      refine g_dup2 C dX8_back_33 rfl rfl ?_
      refine g_ialoadN (walk.toNat) C hM6.s (by omega) (by omega) dX8_back_34 ?_
      refine g_iconst C dX8_back_35 ?_
      refine g_isub C dX8_back_36 ?_
      refine g_iastoreN (walk.toNat) C hM6.s (by omega) (by omega) dX8_back_37 ?_
      refine g_aload_n C dX8_back_38 rfl ?_
      refine g_iconst C dX8_back_39 ?_
      refine g_aload_n C dX8_back_40 rfl ?_
      refine g_get (ci := 10) C rfl inTX8 2 (by decide) fl_RX8_13 rfl (hM6.setS _).o rfl dX8_back_41 ?_
      refine g_iload_n C dX8_back_44 rfl ?_
      refine g_ialoadN (walk.toNat) C (hM6.setS _).s (by omega) (by omega) dX8_back_45 ?_
      rw [iup_s]
      refine g_callV C (c_X8_done _ (hM6.setS _) (kd := 0) (to := st walk.toNat - 1) (by omega)) (ci := 10) rfl (hM6.setS _).o rfl ml_RX8_155 im_yX8_done se_RX8_yX8_done in_RX8 co_yX8_done hd_X8_done rfl ⟨by omega, by omega⟩ rfl (Nat.le_of_ble_eq_true rfl) ⟨by omega, by omega⟩ dX8_back_46 (fun v46 w46 hp46 => ?_)
      obtain ⟨rfl, hM9, hK9⟩ := hp46
      exact g_ireturn C hQ dX8_back_49 (Nat.le_refl _) (Nat.le_refl _) ⟨t6, _, _, _, rfl, hM9, (hK6.tr (Keep.set _ (by have := hM6.tg; omega))).tr hK9, Or.inr (Or.inr ⟨hwk, by omega, by omega, rfl, rfl, rfl⟩)⟩
    · refine g_aload_n C dX8_back_23 rfl ?_
      refine g_callV C (c_X8_cannot _ hM6) (ci := 10) rfl hM6.o rfl ml_RX8_158 im_yX8_cannot se_RX8_yX8_cannot in_RX8 co_yX8_cannot hd_X8_cannot rfl ⟨by omega, by omega⟩ rfl (Nat.le_of_ble_eq_true rfl) ⟨by omega, by omega⟩ dX8_back_24 (fun v24 w24 hp24 => ?_)
      obtain ⟨rfl, hM9, hK9⟩ := hp24
      exact g_ireturn C hQ dX8_back_27 (Nat.le_refl _) (Nat.le_refl _) ⟨t6, st, _, -9, rfl, hM9, hK6.tr hK9, Or.inr (Or.inl ⟨hwk, by omega, by omega, rfl, rfl, rfl⟩)⟩
  · refine g_iconst C dX8_back_12 ?_
    exact g_ireturn C hQ dX8_back_13 (Nat.le_refl _) (Nat.le_refl _) (by have q := bI_1 h9; exact ⟨t6, st, ct, 0, rfl, hM6, hK6, Or.inl ⟨q, by omega, rfl, rfl, rfl⟩⟩)
set_option maxHeartbeats 4000000 in
set_option maxRecDepth 100000 in
theorem c_X8_walkCopy (l : Launch) {E : GE} {w : Wd} {walk into : Int} (h_walk : -2147483648 ≤ walk ∧ walk < 2147483648) (h_into : -2147483648 ≤ into ∧ into < 2147483648) {τ : Nat → Nat} {m : Nat} {A : MA} {th : Int} {ba st pb le ri : Nat → Int} {sp : Nat → Nat → Int} {ct : Nat → Int} (hM : MSx τ w m A th ba st pb le ri sp ct) (hB : ∀ i, i < 3 → GB (ba i)) (hS : ∀ i, i < 3 → 0 ≤ st i ∧ st i ≤ 24) : Sp E l yX8_walkCopy cX8_walkCopy 4 (some .int) 2 (0) (0) [.ref m, iI walk, iI into] w (fun r w' => ∃ (t : Int) (ba' st' ct' : Nat → Int) (ans : Int), r = some (iI ans) ∧ MSx τ w' m A (t) (ba') (st') (pb) (le) (ri) (sp) (ct') ∧ Keep τ w w' ∧ (¬ ((0 ≤ walk ∧ walk ≤ 2) ∧ (0 ≤ into ∧ into ≤ 2)) ∧ t = 1 ∧ ans = 0 ∧ ba' = ba ∧ st' = st ∧ ct' = ct ∨ ((0 ≤ walk ∧ walk ≤ 2) ∧ (0 ≤ into ∧ into ≤ 2)) ∧ t = 0 ∧ ans = bI (ba walk.toNat ≠ ba into.toNat ∨ st walk.toNat ≠ st into.toNat) ∧ ba' = iup ba into.toNat (ba walk.toNat) ∧ st' = iup st into.toNat (st walk.toNat) ∧ ct' = iup ct 0 (ct 0 + 1))) := by
  refine sp_intro [some (.ref m), some (iI walk), some (iI into), none] rfl (Nat.le_of_ble_eq_true rfl) pn_X8 ?_
  intro X C hRm hl hnm hQ
  obtain ⟨hRf, hRl, hRc, hRs⟩ := hRm
  refine g_wf (fun hwf => ?_)
  refine g_aload_n C dX8_walkCopy_0 rfl ?_
  refine g_iload_n C dX8_walkCopy_1 rfl ?_
  refine g_callS C (c_X8_isNo _ (v := walk) h_walk) ml_RX8_145 sm_yX8_isNo in_RX8 co_yX8_isNo hd_X8_isNo rfl ⟨by omega, by omega⟩ rfl (Nat.le_of_ble_eq_true rfl) ⟨by omega, by omega⟩ dX8_walkCopy_2 (fun v2 w2 hp2 => ?_)
  obtain ⟨rfl, hw2⟩ := hp2
  subst w2
  have J20 : ∀ y : Int, (y = 0 ∧ (0 ≤ walk ∧ walk ≤ 2) ∧ (0 ≤ into ∧ into ≤ 2) ∨ y = 1 ∧ ¬ ((0 ≤ walk ∧ walk ≤ 2) ∧ (0 ≤ into ∧ into ≤ 2))) → G E X 4 20 [some (.ref m), some (iI walk), some (iI into), none] [iI y, .ref m] w 0 0 := by
    intro y hy
    refine g_iconst C dX8_walkCopy_20 ?_
    refine g_callV C (c_X8_start _ hM (y := y) (wh := 1) (by omega) (by omega)) (ci := 10) rfl hM.o rfl ml_RX8_149 im_yX8_start se_RX8_yX8_start in_RX8 co_yX8_start hd_X8_start rfl ⟨by omega, by omega⟩ rfl (Nat.le_of_ble_eq_true rfl) ⟨by omega, by omega⟩ dX8_walkCopy_21 (fun v21 w21 hp21 => ?_)
    obtain ⟨t6, rfl, ht6, hM6, hK6⟩ := hp21
    have hy6 : (y) = 0 ∨ (y) = 1 := (by omega)
    refine g_if_eq (tgt := 29) C dX8_walkCopy_24 (by decide) (by omega) (fun h24 => ?_) (fun h24 => ?_)
    · have hwk : (0 ≤ walk ∧ walk ≤ 2) ∧ (0 ≤ into ∧ into ≤ 2) := by omega
      have b1 := hB walk.toNat (by omega)
      have b2 := hB into.toNat (by omega)
      have b11 := b1.1
      have b12 := b1.2.1
      have b21 := b2.1
      have b22 := b2.2.1
      have s1 := hS walk.toNat (by omega)
      have s2 := hS into.toNat (by omega)
      refine g_aload_n C dX8_walkCopy_29 rfl ?_
      refine g_get (ci := 10) C rfl inTX8 1 (by decide) fl_RX8_9 rfl hM6.o rfl dX8_walkCopy_30 ?_
      refine g_iload_n C dX8_walkCopy_33 rfl ?_
      refine g_ialoadN (walk.toNat) C hM6.b (by omega) (by omega) dX8_walkCopy_34 ?_
      refine g_aload_n C dX8_walkCopy_35 rfl ?_
      refine g_get (ci := 10) C rfl inTX8 1 (by decide) fl_RX8_9 rfl hM6.o rfl dX8_walkCopy_36 ?_
      refine g_iload_n C dX8_walkCopy_39 rfl ?_
      refine g_ialoadN (into.toNat) C hM6.b (by omega) (by omega) dX8_walkCopy_40 ?_
      have J64 : ∀ z : Int, (z = bI (ba walk.toNat ≠ ba into.toNat ∨ st walk.toNat ≠ st into.toNat)) → G E X 4 64 [some (.ref m), some (iI walk), some (iI into), none] [iI z] w21 0 0 := by
        intro z hz
        refine g_istore_n C dX8_walkCopy_64 (by decide) rfl ?_
        refine g_aload_n C dX8_walkCopy_65 rfl ?_
        refine g_get (ci := 10) C rfl inTX8 1 (by decide) fl_RX8_9 rfl hM6.o rfl dX8_walkCopy_66 ?_
        refine g_iload_n C dX8_walkCopy_69 rfl ?_
        refine g_aload_n C dX8_walkCopy_70 rfl ?_
        refine g_get (ci := 10) C rfl inTX8 1 (by decide) fl_RX8_9 rfl hM6.o rfl dX8_walkCopy_71 ?_
        refine g_iload_n C dX8_walkCopy_74 rfl ?_
        refine g_ialoadN (walk.toNat) C hM6.b (by omega) (by omega) dX8_walkCopy_75 ?_
        refine g_iastoreN (into.toNat) C hM6.b (by omega) (by omega) dX8_walkCopy_76 ?_
        refine g_aload_n C dX8_walkCopy_77 rfl ?_
        refine g_get (ci := 10) C rfl inTX8 2 (by decide) fl_RX8_13 rfl (hM6.setB _).o rfl dX8_walkCopy_78 ?_
        refine g_iload_n C dX8_walkCopy_81 rfl ?_
        refine g_aload_n C dX8_walkCopy_82 rfl ?_
        refine g_get (ci := 10) C rfl inTX8 2 (by decide) fl_RX8_13 rfl (hM6.setB _).o rfl dX8_walkCopy_83 ?_
        refine g_iload_n C dX8_walkCopy_86 rfl ?_
        refine g_ialoadN (walk.toNat) C (hM6.setB _).s (by omega) (by omega) dX8_walkCopy_87 ?_
        refine g_iastoreN (into.toNat) C (hM6.setB _).s (by omega) (by omega) dX8_walkCopy_88 ?_
        refine g_aload_n C dX8_walkCopy_89 rfl ?_
        refine g_iconst C dX8_walkCopy_90 ?_
        refine g_iload_n C dX8_walkCopy_91 rfl ?_
        have hz01 : z = 0 ∨ z = 1 := by rw [hz]; exact bI_01 _
        have J100 : ∀ x : Int, x = z → G E X 4 100 [some (.ref m), some (iI walk), some (iI into), some (iI z)] [iI x, iI 0, .ref m] (wset (wset w21 A.1 (true, eI 3 (iup ba into.toNat (ba walk.toNat)))) A.2.1 (true, eI 3 (iup st into.toNat (st walk.toNat)))) 0 0 := by
          intro x hx
          subst hx
          refine g_callV C (c_X8_done _ ((hM6.setB _).setS _) (kd := 0) (to := x) (by omega)) (ci := 10) rfl ((hM6.setB _).setS _).o rfl ml_RX8_155 im_yX8_done se_RX8_yX8_done in_RX8 co_yX8_done hd_X8_done rfl ⟨by omega, by omega⟩ rfl (Nat.le_of_ble_eq_true rfl) ⟨by omega, by omega⟩ dX8_walkCopy_100 (fun v100 w100 hp100 => ?_)
          obtain ⟨rfl, hM9, hK9⟩ := hp100
          exact g_ireturn C hQ dX8_walkCopy_103 (Nat.le_refl _) (Nat.le_refl _) ⟨t6, _, _, _, x, rfl, hM9, (hK6.tr ((Keep.set _ (by have := hM6.tg; omega)).tr (Keep.set _ (by have := hM6.tg; omega)))).tr hK9, Or.inr ⟨hwk, by omega, hz, rfl, rfl, rfl⟩⟩
        refine g_if_eq (tgt := 99) C dX8_walkCopy_92 (by decide) (by rw [hz]; exact bI_r _) (fun h92 => ?_) (fun h92 => ?_)
        · refine g_iconst C dX8_walkCopy_99 ?_
          exact J100 _ (by omega)
        · refine g_iconst C dX8_walkCopy_95 ?_
          refine g_goto (tgt := 100) C dX8_walkCopy_96 (by decide) ?_
          exact J100 _ (by omega)
      refine g_icmp_ne (tgt := 59) C dX8_walkCopy_41 (by decide) (by omega) (by omega) (fun h41 => ?_) (fun h41 => ?_)
      · refine g_iconst C dX8_walkCopy_59 ?_
        refine g_goto (tgt := 64) C dX8_walkCopy_60 (by decide) ?_
        exact J64 _ (by first | rw [bI_t (by omega)] | rw [bI_f (by omega)])
      · refine g_aload_n C dX8_walkCopy_44 rfl ?_
        refine g_get (ci := 10) C rfl inTX8 2 (by decide) fl_RX8_13 rfl hM6.o rfl dX8_walkCopy_45 ?_
        refine g_iload_n C dX8_walkCopy_48 rfl ?_
        refine g_ialoadN (walk.toNat) C hM6.s (by omega) (by omega) dX8_walkCopy_49 ?_
        refine g_aload_n C dX8_walkCopy_50 rfl ?_
        refine g_get (ci := 10) C rfl inTX8 2 (by decide) fl_RX8_13 rfl hM6.o rfl dX8_walkCopy_51 ?_
        refine g_iload_n C dX8_walkCopy_54 rfl ?_
        refine g_ialoadN (into.toNat) C hM6.s (by omega) (by omega) dX8_walkCopy_55 ?_
        refine g_icmp_eq (tgt := 63) C dX8_walkCopy_56 (by decide) (by omega) (by omega) (fun h56 => ?_) (fun h56 => ?_)
        · refine g_iconst C dX8_walkCopy_63 ?_
          exact J64 _ (by first | rw [bI_t (by omega)] | rw [bI_f (by omega)])
        · refine g_iconst C dX8_walkCopy_59 ?_
          refine g_goto (tgt := 64) C dX8_walkCopy_60 (by decide) ?_
          exact J64 _ (by first | rw [bI_t (by omega)] | rw [bI_f (by omega)])
    · refine g_iconst C dX8_walkCopy_27 ?_
      exact g_ireturn C hQ dX8_walkCopy_28 (Nat.le_refl _) (Nat.le_refl _) ⟨t6, ba, st, ct, 0, rfl, hM6, hK6, Or.inl ⟨by omega, by omega, rfl, rfl, rfl, rfl⟩⟩
  refine g_if_ne (tgt := 15) C dX8_walkCopy_5 (by decide) (bI_r _) (fun h5 => ?_) (fun h5 => ?_)
  · refine g_iconst C dX8_walkCopy_15 ?_
    refine g_goto (tgt := 20) C dX8_walkCopy_16 (by decide) ?_
    exact J20 _ (by first | (have := bI_1 h5; exact Or.inr ⟨rfl, by omega⟩) | (have := bI_1 h12; exact Or.inr ⟨rfl, by omega⟩) | (have := bI_0 (Classical.not_not.mp h5); have := bI_0 h12; exact Or.inl ⟨rfl, by omega, by omega⟩))
  · refine g_iload_n C dX8_walkCopy_8 rfl ?_
    refine g_callS C (c_X8_isNo _ (v := into) h_into) ml_RX8_145 sm_yX8_isNo in_RX8 co_yX8_isNo hd_X8_isNo rfl ⟨by omega, by omega⟩ rfl (Nat.le_of_ble_eq_true rfl) ⟨by omega, by omega⟩ dX8_walkCopy_9 (fun v9 w9 hp9 => ?_)
    obtain ⟨rfl, hw9⟩ := hp9
    subst w9
    refine g_if_eq (tgt := 19) C dX8_walkCopy_12 (by decide) (bI_r _) (fun h12 => ?_) (fun h12 => ?_)
    · refine g_iconst C dX8_walkCopy_19 ?_
      exact J20 _ (by first | (have := bI_1 h5; exact Or.inr ⟨rfl, by omega⟩) | (have := bI_1 h12; exact Or.inr ⟨rfl, by omega⟩) | (have := bI_0 (Classical.not_not.mp h5); have := bI_0 h12; exact Or.inl ⟨rfl, by omega, by omega⟩))
    · refine g_iconst C dX8_walkCopy_15 ?_
      refine g_goto (tgt := 20) C dX8_walkCopy_16 (by decide) ?_
      exact J20 _ (by first | (have := bI_1 h5; exact Or.inr ⟨rfl, by omega⟩) | (have := bI_1 h12; exact Or.inr ⟨rfl, by omega⟩) | (have := bI_0 (Classical.not_not.mp h5); have := bI_0 h12; exact Or.inl ⟨rfl, by omega, by omega⟩))
def prV (b r s what : Int) : Int := if what = 0 then b else if what = 1 then s else if what = 2 then r else if what = 3 then (cf b r s.toNat).1 else if what = 4 then (cf b r s.toNat).2.1 else (cf b r s.toNat).2.2
set_option maxHeartbeats 4000000 in
set_option maxRecDepth 100000 in
theorem c_X8_partOf (l : Launch) {E : GE} {w : Wd} {τ : Nat → Nat} {m : Nat} {A : MA} {th : Int} {ba st pb le ri : Nat → Int} {sp : Nat → Nat → Int} {ct : Nat → Int} (hM : MSx τ w m A th ba st pb le ri sp ct) {i : Nat} {r what : Int} (hi : i < 3) (hw : 0 ≤ what ∧ what ≤ 5) (hb : GB (ba i)) (hr : RT (ba i) r) (hs : 0 ≤ st i ∧ st i ≤ 24) : Sp E l yX8_partOf cX8_partOf 3 (some .int) 2 (1) (3) [.ref m, iI (i : Int), iI what] w (fun r1 w' => r1 = some (iI (prV (ba i) r (st i) what)) ∧ Ex w w') := by
  refine sp_intro [some (.ref m), some (iI (i : Int)), some (iI what)] rfl (Nat.le_of_ble_eq_true rfl) pn_X8 ?_
  intro X C hRm hl hnm hQ
  obtain ⟨hRf, hRl, hRc, hRs⟩ := hRm
  refine g_wf (fun hwf => ?_)
  refine g_iload_n C dX8_partOf_0 rfl ?_
  refine g_iconst C dX8_partOf_1 ?_
  refine g_icmp_ge (tgt := 42) C dX8_partOf_2 (by decide) (by omega) (by omega) (fun h2 => ?_) (fun h2 => ?_)
  · refine g_aload_n C dX8_partOf_42 rfl ?_
    refine g_get (ci := 10) C rfl inTX8 1 (by decide) fl_RX8_9 rfl hM.o rfl dX8_partOf_43 ?_
    refine g_iload_n C dX8_partOf_46 rfl ?_
    refine g_ialoadN (i) C hM.b (by omega) (by omega) dX8_partOf_47 ?_
    refine g_aload_n C dX8_partOf_48 rfl ?_
    refine g_get (ci := 10) C rfl inTX8 2 (by decide) fl_RX8_13 rfl hM.o rfl dX8_partOf_49 ?_
    refine g_iload_n C dX8_partOf_52 rfl ?_
    refine g_ialoadN (i) C hM.s (by omega) (by omega) dX8_partOf_53 ?_
    rw [show st i = (((st i).toNat : Nat) : Int) by omega]
    refine g_callS C (c_X8_terms _ (b := ba i) (r := r) (K := (st i).toNat) hb hr (by omega)) ml_RX8_138 sm_yX8_terms in_RX8 co_yX8_terms hd_X8_terms rfl ⟨by omega, by omega⟩ rfl (Nat.le_of_ble_eq_true rfl) ⟨by omega, by omega⟩ dX8_partOf_54 (fun v54 w54 hp54 => ?_)
    obtain ⟨f, rfl, rfl, g0, g1, g2⟩ := hp54
    refine g_iload_n C dX8_partOf_57 rfl ?_
    refine g_iconst C dX8_partOf_58 ?_
    refine g_isub C dX8_partOf_59 ?_
    refine g_ialoadN ((what - 3).toNat) C wpush_s (by omega) (by omega) dX8_partOf_60 ?_
    exact g_ireturn C hQ dX8_partOf_61 (by omega) (by omega) ⟨by
      unfold prV
      rw [if_neg (by omega), if_neg (by omega), if_neg (by omega)]
      have e : what = 3 ∨ what = 4 ∨ what = 5 := by omega
      rcases e with e | e | e
      · rw [if_pos e, e]; rw [← g0]; rfl
      · rw [if_neg (by omega), if_pos e, e]; rw [← g1]; rfl
      · rw [if_neg (by omega), if_neg (by omega), e]; rw [← g2]; rfl, Ex.push hwf _⟩
  · refine g_iload_n C dX8_partOf_5 rfl ?_
    refine g_if_ne (tgt := 18) C dX8_partOf_6 (by decide) (by omega) (fun h6 => ?_) (fun h6 => ?_)
    · refine g_iload_n C dX8_partOf_18 rfl ?_
      refine g_iconst C dX8_partOf_19 ?_
      refine g_icmp_ne (tgt := 32) C dX8_partOf_20 (by decide) (by omega) (by omega) (fun h20 => ?_) (fun h20 => ?_)
      · refine g_aload_n C dX8_partOf_32 rfl ?_
        refine g_get (ci := 10) C rfl inTX8 1 (by decide) fl_RX8_9 rfl hM.o rfl dX8_partOf_33 ?_
        refine g_iload_n C dX8_partOf_36 rfl ?_
        refine g_ialoadN (i) C hM.b (by omega) (by omega) dX8_partOf_37 ?_
        refine g_callS C (c_X8_root _ (b := ba i) (by have := hb.1; have := hb.2.1; omega)) ml_RX8_130 sm_yX8_root in_RX8 co_yX8_root hd_X8_root rfl ⟨by omega, by omega⟩ rfl (Nat.le_of_ble_eq_true rfl) ⟨by omega, by omega⟩ dX8_partOf_38 (fun v38 w38 hp38 => ?_)
        obtain ⟨⟨rr, rfl, q1, q2, q3⟩, hw38⟩ := hp38
        subst w38
        have er := RT_uniq hr ⟨q1, q2, q3⟩
        exact g_ireturn C hQ dX8_partOf_41 (by omega) (by omega) ⟨by unfold prV; first | rw [if_pos (by omega)] | (rw [if_neg (by omega), if_pos (by omega)]) | (rw [if_neg (by omega), if_neg (by omega), if_pos (by omega), er]), Ex.rf w⟩
      · refine g_aload_n C dX8_partOf_23 rfl ?_
        refine g_get (ci := 10) C rfl inTX8 2 (by decide) fl_RX8_13 rfl hM.o rfl dX8_partOf_24 ?_
        refine g_iload_n C dX8_partOf_27 rfl ?_
        refine g_ialoadN (i) C hM.s (by omega) (by omega) dX8_partOf_28 ?_
        refine g_goto (tgt := 41) C dX8_partOf_29 (by decide) ?_
        exact g_ireturn C hQ dX8_partOf_41 (by omega) (by omega) ⟨by unfold prV; first | rw [if_pos (by omega)] | (rw [if_neg (by omega), if_pos (by omega)]) | (rw [if_neg (by omega), if_neg (by omega), if_pos (by omega), er]), Ex.rf w⟩
    · refine g_aload_n C dX8_partOf_9 rfl ?_
      refine g_get (ci := 10) C rfl inTX8 1 (by decide) fl_RX8_9 rfl hM.o rfl dX8_partOf_10 ?_
      refine g_iload_n C dX8_partOf_13 rfl ?_
      refine g_ialoadN (i) C hM.b (by omega) (by omega) dX8_partOf_14 ?_
      refine g_goto (tgt := 41) C dX8_partOf_15 (by decide) ?_
      exact g_ireturn C hQ dX8_partOf_41 (by omega) (by omega) ⟨by unfold prV; first | rw [if_pos (by omega)] | (rw [if_neg (by omega), if_pos (by omega)]) | (rw [if_neg (by omega), if_neg (by omega), if_pos (by omega), er]), Ex.rf w⟩
theorem RT_ex {b : Int} (h : GB b) : ∃ r, RT b r := by
  have key : ∀ n : Nat, (∃ r, RT b r) ∨ ((n : Int) * n ≤ b) := by
    intro n
    induction n with
    | zero => exact Or.inr (by have := h.1; omega)
    | succ n ih =>
      rcases ih with q | q
      · exact Or.inl q
      · rcases Int.lt_or_le b (((n + 1 : Nat) : Int) * ((n + 1 : Nat) : Int)) with a | a
        · exact Or.inl ⟨n, by omega, q, by rw [show ((n : Int) + 1) = ((n + 1 : Nat) : Int) by omega]; exact a⟩
        · exact Or.inr a
  rcases key 10 with q | q
  · exact q
  · have := h.2.1; omega
set_option maxHeartbeats 4000000 in
set_option maxRecDepth 100000 in
theorem c_X8_part (l : Launch) {E : GE} {w : Wd} {walk what : Int} (h_walk : -2147483648 ≤ walk ∧ walk < 2147483648) (h_what : -2147483648 ≤ what ∧ what < 2147483648) {τ : Nat → Nat} {m : Nat} {A : MA} {th : Int} {ba st pb le ri : Nat → Int} {sp : Nat → Nat → Int} {ct : Nat → Int} (hM : MSx τ w m A th ba st pb le ri sp ct) (hB : ∀ i, i < 3 → GB (ba i)) (hS : ∀ i, i < 3 → 0 ≤ st i ∧ st i ≤ 24) : Sp E l yX8_part cX8_part 3 (some .int) 3 (1) (3) [.ref m, iI walk, iI what] w (fun r w' => ∃ (t : Int) (ans : Int), r = some (iI ans) ∧ MSx τ w' m A (t) (ba) (st) (pb) (le) (ri) (sp) (ct) ∧ Keep τ w w' ∧ (¬ (0 ≤ walk ∧ walk ≤ 2) ∧ t = 1 ∧ ans = 0 ∨ (0 ≤ walk ∧ walk ≤ 2) ∧ ¬ (0 ≤ what ∧ what ≤ 5) ∧ t = 2 ∧ ans = 0 ∨ (0 ≤ walk ∧ walk ≤ 2) ∧ (0 ≤ what ∧ what ≤ 5) ∧ t = 0 ∧ ∃ r, RT (ba walk.toNat) r ∧ ans = prV (ba walk.toNat) r (st walk.toNat) what)) := by
  refine sp_intro [some (.ref m), some (iI walk), some (iI what)] rfl (Nat.le_of_ble_eq_true rfl) pn_X8 ?_
  intro X C hRm hl hnm hQ
  obtain ⟨hRf, hRl, hRc, hRs⟩ := hRm
  refine g_wf (fun hwf => ?_)
  refine g_aload_n C dX8_part_0 rfl ?_
  refine g_iload_n C dX8_part_1 rfl ?_
  refine g_callS C (c_X8_isNo _ (v := walk) h_walk) ml_RX8_145 sm_yX8_isNo in_RX8 co_yX8_isNo hd_X8_isNo rfl ⟨by omega, by omega⟩ rfl (Nat.le_of_ble_eq_true rfl) ⟨by omega, by omega⟩ dX8_part_2 (fun v2 w2 hp2 => ?_)
  obtain ⟨rfl, hw2⟩ := hp2
  subst w2
  refine g_iconst C dX8_part_5 ?_
  refine g_callV C (c_X8_start _ hM (y := bI (¬ (0 ≤ walk ∧ walk ≤ 2))) (wh := 1) (bI_01 _) (by omega)) (ci := 10) rfl hM.o rfl ml_RX8_149 im_yX8_start se_RX8_yX8_start in_RX8 co_yX8_start hd_X8_start rfl ⟨by omega, by omega⟩ rfl (Nat.le_of_ble_eq_true rfl) ⟨by omega, by omega⟩ dX8_part_6 (fun v6 w6 hp6 => ?_)
  obtain ⟨t6, rfl, ht6, hM6, hK6⟩ := hp6
  have hy6 : (bI (¬ (0 ≤ walk ∧ walk ≤ 2))) = 0 ∨ (bI (¬ (0 ≤ walk ∧ walk ≤ 2))) = 1 := (bI_01 _)
  refine g_if_ne (tgt := 34) C dX8_part_9 (by decide) (bI_r _) (fun h9 => ?_) (fun h9 => ?_)
  · refine g_iconst C dX8_part_34 ?_
    refine g_goto (tgt := 44) C dX8_part_35 (by decide) ?_
    exact g_ireturn C hQ dX8_part_44 (by omega) (by omega) (by
      first
      | exact ⟨t, _, rfl, hM7.ex hx, hK67.tr (Keep.ex hx), Or.inr (Or.inr ⟨hwk, by omega, by omega, r, hr, rfl⟩)⟩
      | exact ⟨t, 0, rfl, hM7, hK67, Or.inr (Or.inl ⟨hwk, by have := bI_1 h31; omega, by have := bI_1 h31; omega, rfl⟩)⟩
      | exact ⟨t6, 0, rfl, hM6, hK6, Or.inl ⟨bI_1 h9, by omega, rfl⟩⟩)
  · refine g_aload_n C dX8_part_12 rfl ?_
    refine g_iload_n C dX8_part_13 rfl ?_
    refine g_iconst C dX8_part_14 ?_
    refine g_iconst C dX8_part_15 ?_
    refine g_callS C (c_X8_isIn _ (v := what) (a := 0) (b := 5) h_what (by omega) (by omega)) ml_RX8_49 sm_yX8_isIn in_RX8 co_yX8_isIn hd_X8_isIn rfl ⟨by omega, by omega⟩ rfl (Nat.le_of_ble_eq_true rfl) ⟨by omega, by omega⟩ dX8_part_16 (fun v16 w16 hp16 => ?_)
    obtain ⟨rfl, hw16⟩ := hp16
    subst w16
    have J27 : ∀ y : Int, (y = 0 ∧ (0 ≤ what ∧ what ≤ 5) ∨ y = 1 ∧ ¬ (0 ≤ what ∧ what ≤ 5)) → G E X 3 27 [some (.ref m), some (iI walk), some (iI what)] [iI y, .ref m] w6 0 0 := by
      intro y hy
      have hwk : 0 ≤ walk ∧ walk ≤ 2 := Classical.not_not.mp (bI_0 (Classical.not_not.mp h9))
      refine g_iconst C dX8_part_27 ?_
      refine g_callV C (c_X8_refuse _ hM6 (y := y) (wh := 2) (by omega) (by omega) (by omega)) (ci := 10) rfl hM6.o rfl ml_RX8_45 im_yX8_refuse se_RX8_yX8_refuse in_RX8 co_yX8_refuse hd_X8_refuse rfl ⟨by omega, by omega⟩ rfl (Nat.le_of_ble_eq_true rfl) ⟨by omega, by omega⟩ dX8_part_28 (fun v28 w28 hp28 => ?_)
      obtain ⟨t, rfl, ht, hM7, hK7⟩ := hp28
      have hy7 : (y) = 0 ∨ (y) = 1 := (by omega)
      have hK67 := hK6.tr hK7
      refine g_if_eq (tgt := 38) C dX8_part_31 (by decide) (bI_r _) (fun h31 => ?_) (fun h31 => ?_)
      · have htz : ¬ (0 < t) := bI_0 h31
        have hs := hS walk.toNat (by omega)
        have hb := hB walk.toNat (by omega)
        obtain ⟨r, hr⟩ := RT_ex hb
        refine g_eq (L' := [some (.ref m), some (iI ((walk.toNat : Nat) : Int)), some (iI what)]) (by rw [show ((walk.toNat : Nat) : Int) = walk by omega]) rfl ?_
        refine g_aload_n C dX8_part_38 rfl ?_
        refine g_iload_n C dX8_part_39 rfl ?_
        refine g_iload_n C dX8_part_40 rfl ?_
        refine g_callV C (c_X8_partOf _ hM7 (i := walk.toNat) (what := what) (by omega) (by omega) hb hr hs) (ci := 10) rfl hM7.o rfl ml_RX8_162 im_yX8_partOf se_RX8_yX8_partOf in_RX8 co_yX8_partOf hd_X8_partOf rfl ⟨by omega, by omega⟩ rfl (Nat.le_of_ble_eq_true rfl) ⟨by omega, by omega⟩ dX8_part_41 (fun v41 w41 hp41 => ?_)
        obtain ⟨rfl, hx⟩ := hp41
        exact g_ireturn C hQ dX8_part_44 (by omega) (by omega) (by
          first
          | exact ⟨t, _, rfl, hM7.ex hx, hK67.tr (Keep.ex hx), Or.inr (Or.inr ⟨hwk, by omega, by omega, r, hr, rfl⟩)⟩
          | exact ⟨t, 0, rfl, hM7, hK67, Or.inr (Or.inl ⟨hwk, by have := bI_1 h31; omega, by have := bI_1 h31; omega, rfl⟩)⟩
          | exact ⟨t6, 0, rfl, hM6, hK6, Or.inl ⟨bI_1 h9, by omega, rfl⟩⟩)
      · refine g_iconst C dX8_part_34 ?_
        refine g_goto (tgt := 44) C dX8_part_35 (by decide) ?_
        exact g_ireturn C hQ dX8_part_44 (by omega) (by omega) (by
          first
          | exact ⟨t, _, rfl, hM7.ex hx, hK67.tr (Keep.ex hx), Or.inr (Or.inr ⟨hwk, by omega, by omega, r, hr, rfl⟩)⟩
          | exact ⟨t, 0, rfl, hM7, hK67, Or.inr (Or.inl ⟨hwk, by have := bI_1 h31; omega, by have := bI_1 h31; omega, rfl⟩)⟩
          | exact ⟨t6, 0, rfl, hM6, hK6, Or.inl ⟨bI_1 h9, by omega, rfl⟩⟩)
    refine g_if_ne (tgt := 26) C dX8_part_19 (by decide) (bI_r _) (fun h19 => ?_) (fun h19 => ?_)
    · refine g_iconst C dX8_part_26 ?_
      exact J27 _ (by first | exact Or.inl ⟨rfl, bI_1 h19⟩ | exact Or.inr ⟨rfl, bI_0 (Classical.not_not.mp h19)⟩)
    · refine g_iconst C dX8_part_22 ?_
      refine g_goto (tgt := 27) C dX8_part_23 (by decide) ?_
      exact J27 _ (by first | exact Or.inl ⟨rfl, bI_1 h19⟩ | exact Or.inr ⟨rfl, bI_0 (Classical.not_not.mp h19)⟩)
/-! primes that are split -/
def pmN (a p : Nat) : Nat → Nat
  | 0 => 1
  | k + 1 => pmN a p k * (a % p) % p
def prB (n : Nat) : Bool := (List.range 32).all fun k => decide (k < 2) || decide (n < k * k) || decide (n % k ≠ 0)
def SPb (p : Nat) : Bool := decide (5 ≤ p) && decide (p ≤ 997) && decide (p % 4 = 1) && prB p
def witF (p : Nat) : Nat → Nat → Nat
  | 0, w => w
  | n + 1, w => if pmN w p ((p - 1) / 2) = p - 1 then w else witF p n (w + 1)
def wit (p : Nat) : Nat := witF p 40 2
def ima (p : Nat) : Nat := pmN (wit p) p ((p - 1) / 4)
abbrev SQ : Type := Int × Int × Int × Int
def spN (q : SQ) : SQ := (q.2.1, q.1 - q.1 / q.2.1 * q.2.1, q.2.2.2, q.2.2.1 - q.1 / q.2.1 * q.2.2.2)
def spI (p : Nat) : SQ := ((p : Int), (ima p : Int), 0, 1)
def spS (p : Nat) : Nat → SQ
  | 0 => spI p
  | k + 1 => spN (spS p k)
def aB (x : Int) : Int := if x < 0 then -x else x
def spG (p : Nat) (q : SQ) : Bool := decide (0 ≤ q.2.1) && decide (q.2.1 < q.1) && decide (q.1 ≤ p) && decide (aB q.2.2.1 ≤ p) && decide (aB q.2.2.2 ≤ p) && decide (q.2.1 = 0 → q.1 = 1) && decide ((q.1 * q.1 + q.2.2.1 * q.2.2.1) % p = 0) && decide (q.1 * aB q.2.2.2 + q.2.1 * aB q.2.2.1 = p)
def spC (p : Nat) : Nat → SQ → Bool
  | 0, _ => false
  | n + 1, q => spG p q && (decide (q.2.1 = 0) || spC p n (spN q))
def spAll (p : Nat) : Bool := decide (wit p ≤ 40) && decide (pmN (wit p) p ((p - 1) / 2) = p - 1) && decide ((ima p * ima p + 1) % p = 0) && spC p 20 (spI p)
theorem sp_chk : ((List.range 998).all fun p => !(SPb p) || spAll p) = true := by decide +kernel
theorem sp_all {p : Nat} (h : SPb p = true) : spAll p = true := by
  have hp : p ≤ 997 := by
    simp only [SPb, Bool.and_eq_true, decide_eq_true_eq] at h
    exact h.1.1.2
  have := List.all_eq_true.mp sp_chk p (List.mem_range.mpr (by omega))
  rw [h] at this
  simpa using this
theorem spC_good {p : Nat} : ∀ {n k j : Nat}, spC p n (spS p j) = true → (∀ i, i < k → (spS p (j + i)).2.1 ≠ 0) → spG p (spS p (j + k)) = true ∧ k < n
  | 0, k, j, h, _ => by cases h
  | n + 1, k, j, h, hk => by
    simp only [spC, Bool.and_eq_true, Bool.or_eq_true, decide_eq_true_eq] at h
    rcases Nat.eq_zero_or_pos k with q | q
    · subst q; exact ⟨h.1, by omega⟩
    · have h0 := hk 0 q
      rw [Nat.add_zero] at h0
      have h2 := h.2.resolve_left h0
      have := spC_good (n := n) (k := k - 1) (j := j + 1) h2 (fun i hi => by
        have := hk (i + 1) (by omega)
        rwa [show j + (i + 1) = j + 1 + i by omega] at this)
      rw [show j + 1 + (k - 1) = j + k by omega] at this
      exact ⟨this.1, by omega⟩
/-- a state on the way of Euclid's steps -/
def SV (p k : Nat) : Prop := SPb p = true ∧ ∀ i, i < k → (spS p i).2.1 ≠ 0
theorem SV.p {p k : Nat} (h : SV p k) : 5 ≤ p ∧ p ≤ 997 ∧ p % 4 = 1 := by
  have h := h.1
  simp only [SPb, Bool.and_eq_true, decide_eq_true_eq] at h
  omega
theorem aB_le {x b : Int} (h : aB x ≤ b) : -b ≤ x ∧ x ≤ b := by unfold aB at h; split at h <;> omega
theorem SV.good {p k : Nat} (h : SV p k) : 0 ≤ (spS p k).2.1 ∧ (spS p k).2.1 < (spS p k).1 ∧ (spS p k).1 ≤ p ∧ aB (spS p k).2.2.1 ≤ p ∧ aB (spS p k).2.2.2 ≤ p ∧ ((spS p k).2.1 = 0 → (spS p k).1 = 1) ∧ ((spS p k).1 * (spS p k).1 + (spS p k).2.2.1 * (spS p k).2.2.1) % p = 0 ∧ (spS p k).1 * aB (spS p k).2.2.2 + (spS p k).2.1 * aB (spS p k).2.2.1 = p ∧ k < 20 := by
  have h1 := sp_all h.1
  simp only [spAll, Bool.and_eq_true, decide_eq_true_eq] at h1
  obtain ⟨h2, h3⟩ := spC_good (n := 20) (k := k) (j := 0) h1.2 (fun i hi => by rw [Nat.zero_add]; exact h.2 i hi)
  rw [Nat.zero_add] at h2
  simp only [spG, Bool.and_eq_true, decide_eq_true_eq] at h2
  obtain ⟨⟨⟨⟨⟨⟨⟨a, b⟩, c⟩, d⟩, e⟩, f⟩, g⟩, i⟩ := h2
  exact ⟨a, b, c, d, e, f, g, i, h3⟩
theorem SV.next {p k : Nat} (h : SV p k) (h0 : (spS p k).2.1 ≠ 0) : SV p (k + 1) := ⟨h.1, fun i hi => by
  rcases Nat.lt_or_ge i k with q | q
  · exact h.2 i q
  · rw [show i = k by omega]; exact h0⟩
theorem SV.wit {p k : Nat} (h : SV p k) : wit p ≤ 40 ∧ pmN (wit p) p ((p - 1) / 2) = p - 1 ∧ (ima p * ima p + 1) % p = 0 := by
  have h1 := sp_all h.1
  simp only [spAll, Bool.and_eq_true, decide_eq_true_eq] at h1
  exact ⟨h1.1.1.1, h1.1.1.2, h1.1.2⟩
theorem pmN_lt {a p : Nat} (hp : 2 ≤ p) : ∀ k, pmN a p k < p
  | 0 => by show 1 < p; omega
  | k + 1 => Nat.mod_lt _ (by omega)
theorem witF_spec {p : Nat} : ∀ {n w : Nat}, w ≤ witF p n w ∧ witF p n w ≤ w + n ∧ ∀ x, w ≤ x → x < witF p n w → pmN x p ((p - 1) / 2) ≠ p - 1
  | 0, w => ⟨Nat.le_refl _, Nat.le_refl _, fun x h1 h2 => absurd h2 (by show ¬ x < w; omega)⟩
  | n + 1, w => by
    unfold witF
    by_cases q : pmN w p ((p - 1) / 2) = p - 1
    · rw [if_pos q]; exact ⟨Nat.le_refl _, by omega, fun x h1 h2 => by omega⟩
    · rw [if_neg q]
      obtain ⟨a, b, c⟩ := witF_spec (p := p) (n := n) (w := w + 1)
      exact ⟨by omega, by omega, fun x h1 h2 => by
        by_cases e : x = w
        · rw [e]; exact q
        · exact c x (by omega) h2⟩
theorem wit_first {p x : Nat} (h1 : 2 ≤ x) (h2 : x < wit p) : pmN x p ((p - 1) / 2) ≠ p - 1 := witF_spec.2.2 x h1 h2
theorem wit_ge {p : Nat} : 2 ≤ wit p := witF_spec.1
/-- a row that holds such a state -/
def SpR (f : Nat → Int) (p k : Nat) : Prop := SV p k ∧ f 0 = p ∧ f 1 = (spS p k).1 ∧ f 2 = (spS p k).2.1 ∧ f 3 = (spS p k).2.2.1 ∧ f 4 = (spS p k).2.2.2 ∧ f 5 = k
theorem prB_iff {n : Nat} (h : n ≤ 1000) : prB n = true ↔ ∀ k : Nat, 2 ≤ k → k * k ≤ n → n % k ≠ 0 := by
  unfold prB
  rw [List.all_eq_true]
  constructor
  · intro a k k1 k2
    have hk : k < 32 := by
      rcases Nat.lt_or_ge k 32 with q | q
      · exact q
      · have : 32 * 32 ≤ k * k := Nat.mul_le_mul q q
        omega
    have := a k (List.mem_range.mpr hk)
    simp only [Bool.or_eq_true, decide_eq_true_eq] at this
    omega
  · intro a k _
    simp only [Bool.or_eq_true, decide_eq_true_eq]
    rcases Nat.lt_or_ge k 2 with q | q
    · exact Or.inl (Or.inl q)
    · rcases Nat.lt_or_ge n (k * k) with r | r
      · exact Or.inl (Or.inr r)
      · exact Or.inr (a k q r)
theorem tm_mod {x p : Int} (hp : 0 < p) : (x.tmod p + p) % p = x % p := by
  have e : x.tmod p = x - p * x.tdiv p := Int.tmod_def x p
  rw [Int.add_emod_right, e, Int.sub_mul_emod_self_left]
theorem SPb_r {p : Nat} (h : SPb p = true) : 5 ≤ p ∧ p ≤ 997 ∧ p % 4 = 1 := SV.p (k := 0) ⟨h, fun i hi => absurd hi (Nat.not_lt_zero i)⟩
theorem SPb_v {p : Nat} (h : SPb p = true) : SV p 0 := ⟨h, fun i hi => absurd hi (Nat.not_lt_zero i)⟩
theorem pm_s {a p k : Nat} : ((pmN a p k : Nat) : Int) * ((a % p : Nat) : Int) % (p : Int) = ((pmN a p (k + 1) : Nat) : Int) := by
  show _ = ((pmN a p k * (a % p) % p : Nat) : Int)
  rw [Int.natCast_emod (pmN a p k * (a % p)) p, Int.natCast_mul]
set_option maxHeartbeats 4000000 in
set_option maxRecDepth 100000 in
theorem c_X8_isNumberPrime (l : Launch) {E : GE} {w : Wd} {N : Nat} (hN : N ≤ 999) : Sp E l yX8_isNumberPrime cX8_isNumberPrime 2 (some .boolean) 0 (0) (0) [iI (N : Int)] w (fun r w' => (∃ y : Int, r = some (iI y) ∧ (y = 1 ∧ 1 < N ∧ prB N = true ∨ y = 0 ∧ ¬ (1 < N ∧ prB N = true))) ∧ w' = w) := by
  refine sp_intro [some (iI (N : Int)), none] rfl (Nat.le_of_ble_eq_true rfl) pn_X8 ?_
  intro X C hRm hl hnm hQ
  obtain ⟨hRf, hRl, hRc, hRs⟩ := hRm
  refine g_wf (fun hwf => ?_)
  refine g_iconst C dX8_isNumberPrime_0 ?_
  refine g_istore_n C dX8_isNumberPrime_1 (by decide) rfl ?_
  refine g_loop (σ := Nat) (fun k => 2 ≤ k ∧ k ≤ 33 ∧ ∀ j, 2 ≤ j → j < k → N % j ≠ 0) (fun k => G E X 2 2 [some (iI (N : Int)), some (iI (k : Int))] [] w 0 0) (fun k => 1000 - k) ?_ 2 ⟨by omega, by omega, fun j h1 h2 => by omega⟩
  rintro k ⟨hk, hk2, hkj⟩ ih
  have hkk : 0 ≤ (k : Int) * (k : Int) := Int.mul_nonneg (by omega) (by omega)
  have hkk2 : (k : Int) * (k : Int) ≤ 33 * 33 := Int.mul_le_mul (by omega) (by omega) (by omega) (by omega)
  have hkc : ((k * k : Nat) : Int) = (k : Int) * (k : Int) := Int.natCast_mul k k
  refine g_iload_n C dX8_isNumberPrime_2 rfl ?_
  refine g_iload_n C dX8_isNumberPrime_3 rfl ?_
  refine g_imul C dX8_isNumberPrime_4 ?_
  refine g_iload_n C dX8_isNumberPrime_5 rfl ?_
  refine g_icmp_gt (tgt := 23) C dX8_isNumberPrime_6 (by decide) (by omega) (by omega) (fun h6 => ?_) (fun h6 => ?_)
  · refine g_iload_n C dX8_isNumberPrime_23 rfl ?_
    refine g_iconst C dX8_isNumberPrime_24 ?_
    refine g_icmp_le (tgt := 32) C dX8_isNumberPrime_25 (by decide) (by omega) (by omega) (fun h25 => ?_) (fun h25 => ?_)
    · refine g_iconst C dX8_isNumberPrime_32 ?_
      exact g_zreturn C hQ dX8_isNumberPrime_33 (nar01 (by omega)) (Nat.le_refl _) (Nat.le_refl _) ⟨⟨_, rfl, by
        first
        | exact Or.inl ⟨rfl, by omega, (prB_iff (by omega)).mpr (fun j h1 h2 => by
            rcases Nat.lt_or_ge j k with q | q
            · exact hkj j h1 q
            · have : k * k ≤ j * j := Nat.mul_le_mul q q
              omega)⟩
        | exact Or.inr ⟨rfl, fun q => by omega⟩⟩, rfl⟩
    · refine g_iconst C dX8_isNumberPrime_28 ?_
      refine g_goto (tgt := 33) C dX8_isNumberPrime_29 (by decide) ?_
      exact g_zreturn C hQ dX8_isNumberPrime_33 (nar01 (by omega)) (Nat.le_refl _) (Nat.le_refl _) ⟨⟨_, rfl, by
        first
        | exact Or.inl ⟨rfl, by omega, (prB_iff (by omega)).mpr (fun j h1 h2 => by
            rcases Nat.lt_or_ge j k with q | q
            · exact hkj j h1 q
            · have : k * k ≤ j * j := Nat.mul_le_mul q q
              omega)⟩
        | exact Or.inr ⟨rfl, fun q => by omega⟩⟩, rfl⟩
  · refine g_iload_n C dX8_isNumberPrime_9 rfl ?_
    refine g_iload_n C dX8_isNumberPrime_10 rfl ?_
    refine g_iremN C dX8_isNumberPrime_11 (by omega) (by omega) ?_
    have hmod : ((N % k : Nat) : Int) = (N : Int) % (k : Int) := Int.natCast_emod N k
    refine g_if_ne (tgt := 17) C dX8_isNumberPrime_12 (by decide) (by have : (N : Int) % (k : Int) < k := Int.emod_lt_of_pos _ (by omega); have : 0 ≤ (N : Int) % (k : Int) := Int.emod_nonneg _ (by omega); omega) (fun h12 => ?_) (fun h12 => ?_)
    · refine g_iinc C dX8_isNumberPrime_17 rfl (by decide) rfl ?_
      refine g_goto (tgt := 2) C dX8_isNumberPrime_20 (by decide) ?_
      have hlt : k + 1 ≤ 33 := by
        rcases Nat.lt_or_ge 32 k with q | q
        · have : 33 * 33 ≤ k * k := Nat.mul_le_mul q q
          omega
        · omega
      exact ih (k + 1) ⟨by omega, hlt, fun j h1 h2 => by
        rcases Nat.lt_or_ge j k with q | q
        · exact hkj j h1 q
        · rw [show j = k by omega]; omega⟩ (by omega)
    · refine g_iconst C dX8_isNumberPrime_15 ?_
      exact g_zreturn C hQ dX8_isNumberPrime_16 rfl (Nat.le_refl _) (Nat.le_refl _) ⟨⟨0, rfl, Or.inr ⟨rfl, fun q => (prB_iff (by omega)).mp q.2 k hk (by omega) (by omega)⟩⟩, rfl⟩
set_option maxHeartbeats 4000000 in
set_option maxRecDepth 100000 in
theorem c_X8_powered (l : Launch) {E : GE} {w : Wd} {x : Int} {a p K : Nat} (hp : 5 ≤ p ∧ p ≤ 997) (hx : -1000 ≤ x ∧ x ≤ 1000) (ha : x % (p : Int) = ((a % p : Nat) : Int)) (hK : K ≤ 1000) : Sp E l yX8_powered cX8_powered 6 (some .int) 0 (0) (0) [iI x, iI (K : Int), iI (p : Int)] w (fun r w' => r = some (iI ((pmN a p K : Nat) : Int)) ∧ w' = w) := by
  refine sp_intro [some (iI x), some (iI (K : Int)), some (iI (p : Int)), none, none, none] rfl (Nat.le_of_ble_eq_true rfl) pn_X8 ?_
  intro X C hRm hl hnm hQ
  obtain ⟨hRf, hRl, hRc, hRs⟩ := hRm
  refine g_wf (fun hwf => ?_)
  refine g_iload_n C dX8_powered_0 rfl ?_
  refine g_iload_n C dX8_powered_1 rfl ?_
  refine g_irem C dX8_powered_2 (by omega) (by omega) (by omega) ?_
  refine g_iload_n C dX8_powered_3 rfl ?_
  refine g_iadd C dX8_powered_4 ?_
  refine g_iload_n C dX8_powered_5 rfl ?_
  have t1 : -(p : Int) < x.tmod p := Int.lt_tmod_of_pos x (by omega)
  have t2 : x.tmod p < p := Int.tmod_lt_of_pos x (by omega)
  refine g_iremN C dX8_powered_6 (by omega) (by omega) ?_
  rw [tm_mod (by omega), ha]
  refine g_istore_n C dX8_powered_7 (by decide) rfl ?_
  refine g_iconst C dX8_powered_8 ?_
  refine g_istore C dX8_powered_9 (by decide) rfl ?_
  refine g_iconst C dX8_powered_11 ?_
  refine g_istore C dX8_powered_12 (by decide) rfl ?_
  have hap : a % p < p := Nat.mod_lt _ (by omega)
  refine g_loop (σ := Nat) (fun j => j ≤ K) (fun j => G E X 6 14 [some (iI x), some (iI (K : Int)), some (iI (p : Int)), some (iI ((a % p : Nat) : Int)), some (iI ((pmN a p j : Nat) : Int)), some (iI (j : Int))] [] w 0 0) (fun j => K - j) ?_ 0 (by omega)
  intro j hj ih
  have hpj := pmN_lt (a := a) (p := p) (by omega) j
  have m1 : 0 ≤ ((pmN a p j : Nat) : Int) * ((a % p : Nat) : Int) := Int.mul_nonneg (by omega) (by omega)
  have m2 : ((pmN a p j : Nat) : Int) * ((a % p : Nat) : Int) ≤ 997 * 997 := Int.mul_le_mul (by omega) (by omega) (by omega) (by omega)
  refine g_iload C dX8_powered_14 rfl ?_
  refine g_iload_n C dX8_powered_16 rfl ?_
  refine g_icmp_ge (tgt := 34) C dX8_powered_17 (by decide) (by omega) (by omega) (fun h17 => ?_) (fun h17 => ?_)
  · refine g_iload C dX8_powered_34 rfl ?_
    exact g_ireturn C hQ dX8_powered_36 (Nat.le_refl _) (Nat.le_refl _) ⟨by rw [show j = K by omega], rfl⟩
  · refine g_iload C dX8_powered_20 rfl ?_
    refine g_iload_n C dX8_powered_22 rfl ?_
    refine g_imul C dX8_powered_23 ?_
    refine g_iload_n C dX8_powered_24 rfl ?_
    refine g_iremN C dX8_powered_25 (by omega) (by omega) ?_
    rw [pm_s]
    refine g_istore C dX8_powered_26 (by decide) rfl ?_
    refine g_iinc C dX8_powered_28 rfl (by decide) rfl ?_
    refine g_goto (tgt := 14) C dX8_powered_31 (by decide) ?_
    exact ih (j + 1) (by omega) (by omega)
set_option maxHeartbeats 4000000 in
set_option maxRecDepth 100000 in
theorem c_X8_witness (l : Launch) {E : GE} {w : Wd} {p : Nat} (hS : SPb p = true) : Sp E l yX8_witness cX8_witness 2 (some .int) 1 (0) (0) [iI (p : Int)] w (fun r w' => r = some (iI ((wit p : Nat) : Int)) ∧ w' = w) := by
  refine sp_intro [some (iI (p : Int)), none] rfl (Nat.le_of_ble_eq_true rfl) pn_X8 ?_
  intro X C hRm hl hnm hQ
  obtain ⟨hRf, hRl, hRc, hRs⟩ := hRm
  refine g_wf (fun hwf => ?_)
  refine g_iconst C dX8_witness_0 ?_
  refine g_istore_n C dX8_witness_1 (by decide) rfl ?_
  have hw := (SPb_v hS).wit
  have hp := SPb_r hS
  refine g_loop (σ := Nat) (fun j => 2 ≤ j ∧ j ≤ wit p) (fun j => G E X 2 2 [some (iI (p : Int)), some (iI (j : Int))] [] w 0 0) (fun j => wit p - j) ?_ 2 ⟨by omega, wit_ge⟩
  rintro j ⟨hj, hj2⟩ ih
  have hpj := pmN_lt (a := j) (p := p) (by omega) ((p - 1) / 2)
  refine g_iload_n C dX8_witness_2 rfl ?_
  refine g_iload_n C dX8_witness_3 rfl ?_
  refine g_iconst C dX8_witness_4 ?_
  refine g_isub C dX8_witness_5 ?_
  refine g_iconst C dX8_witness_6 ?_
  refine g_idivN C dX8_witness_7 (by omega) (by omega) ?_
  rw [show ((p : Int) - 1) / 2 = (((p - 1) / 2 : Nat) : Int) by omega]
  refine g_iload_n C dX8_witness_8 rfl ?_
  refine g_callS C (c_X8_powered _ (x := (j : Int)) (a := j) (p := p) (K := (p - 1) / 2) (by omega) (by omega) (by rw [Int.natCast_emod]) (by omega)) ml_RX8_250 sm_yX8_powered in_RX8 co_yX8_powered hd_X8_powered rfl ⟨by omega, by omega⟩ rfl (Nat.le_of_ble_eq_true rfl) ⟨by omega, by omega⟩ dX8_witness_9 (fun v9 w9 hp9 => ?_)
  obtain ⟨rfl, hw9⟩ := hp9
  subst w9
  refine g_iload_n C dX8_witness_12 rfl ?_
  refine g_iconst C dX8_witness_13 ?_
  refine g_isub C dX8_witness_14 ?_
  refine g_icmp_eq (tgt := 24) C dX8_witness_15 (by decide) (by omega) (by omega) (fun h15 => ?_) (fun h15 => ?_)
  · refine g_iload_n C dX8_witness_24 rfl ?_
    exact g_ireturn C hQ dX8_witness_25 (Nat.le_refl _) (Nat.le_refl _) ⟨by
      rcases Nat.lt_or_ge j (wit p) with q | q
      · have := wit_first hj q
        omega
      · rw [show j = wit p by omega], rfl⟩
  · refine g_iinc C dX8_witness_18 rfl (by decide) rfl ?_
    refine g_goto (tgt := 2) C dX8_witness_21 (by decide) ?_
    have hne : j ≠ wit p := fun q => by
      rw [q, hw.2.1] at h15
      omega
    exact ih (j + 1) ⟨by omega, by omega⟩ (by omega)
set_option maxHeartbeats 4000000 in
set_option maxRecDepth 100000 in
theorem c_X8_imaginary (l : Launch) {E : GE} {w : Wd} {p : Nat} (hS : SPb p = true) : Sp E l yX8_imaginary cX8_imaginary 1 (some .int) 2 (0) (0) [iI (p : Int)] w (fun r w' => r = some (iI ((ima p : Nat) : Int)) ∧ w' = w) := by
  refine sp_intro [some (iI (p : Int))] rfl (Nat.le_of_ble_eq_true rfl) pn_X8 ?_
  intro X C hRm hl hnm hQ
  obtain ⟨hRf, hRl, hRc, hRs⟩ := hRm
  refine g_wf (fun hwf => ?_)
  refine g_iload_n C dX8_imaginary_0 rfl ?_
  refine g_callS C (c_X8_witness _ hS) ml_RX8_254 sm_yX8_witness in_RX8 co_yX8_witness hd_X8_witness rfl ⟨by omega, by omega⟩ rfl (Nat.le_of_ble_eq_true rfl) ⟨by omega, by omega⟩ dX8_imaginary_1 (fun v1 w1 hp1 => ?_)
  obtain ⟨rfl, hw1⟩ := hp1
  subst w1
  have hw := (SPb_v hS).wit
  have hp := SPb_r hS
  refine g_iload_n C dX8_imaginary_4 rfl ?_
  refine g_iconst C dX8_imaginary_5 ?_
  refine g_isub C dX8_imaginary_6 ?_
  refine g_iconst C dX8_imaginary_7 ?_
  refine g_idivN C dX8_imaginary_8 (by omega) (by omega) ?_
  rw [show ((p : Int) - 1) / 4 = (((p - 1) / 4 : Nat) : Int) by omega]
  refine g_iload_n C dX8_imaginary_9 rfl ?_
  refine g_callS C (c_X8_powered _ (x := ((wit p : Nat) : Int)) (a := wit p) (p := p) (K := (p - 1) / 4) (by omega) (by omega) (by rw [Int.natCast_emod]) (by omega)) ml_RX8_250 sm_yX8_powered in_RX8 co_yX8_powered hd_X8_powered rfl ⟨by omega, by omega⟩ rfl (Nat.le_of_ble_eq_true rfl) ⟨by omega, by omega⟩ dX8_imaginary_10 (fun v10 w10 hp10 => ?_)
  obtain ⟨rfl, hw10⟩ := hp10
  subst w10
  exact g_ireturn C hQ dX8_imaginary_13 (Nat.le_refl _) (Nat.le_refl _) ⟨rfl, rfl⟩
set_option maxHeartbeats 4000000 in
set_option maxRecDepth 100000 in
theorem c_X8_begun (l : Launch) {E : GE} {w : Wd} {p : Nat} (hS : SPb p = true) : Sp E l yX8_begun cX8_begun 1 (some (.array .int)) 3 (1) (6) [iI (p : Int)] w (fun r w' => ∃ f : Nat → Int, r = some (.ref w.1) ∧ w' = wpush w (true, eI 6 f) ∧ SpR f p 0) := by
  refine sp_intro [some (iI (p : Int))] rfl (Nat.le_of_ble_eq_true rfl) pn_X8 ?_
  intro X C hRm hl hnm hQ
  obtain ⟨hRf, hRl, hRc, hRs⟩ := hRm
  refine g_wf (fun hwf => ?_)
  refine g_bipush C dX8_begun_0 (by decide) ?_
  refine g_newI C gw_arrayClass_int (N := 6) rfl (by omega) (by omega) dX8_begun_2 ?_
  refine g_dup C dX8_begun_4 rfl ?_
  refine g_iconst C dX8_begun_5 ?_
  refine g_iload_n C dX8_begun_6 rfl ?_
  refine g_iastore C wpush_s (by omega) dX8_begun_7 ?_
  rw [wset_push]
  refine g_dup C dX8_begun_8 rfl ?_
  refine g_iconst C dX8_begun_9 ?_
  refine g_iload_n C dX8_begun_10 rfl ?_
  refine g_iastore C wpush_s (by omega) dX8_begun_11 ?_
  rw [wset_push]
  refine g_dup C dX8_begun_12 rfl ?_
  refine g_iconst C dX8_begun_13 ?_
  refine g_iload_n C dX8_begun_14 rfl ?_
  refine g_callS C (c_X8_imaginary _ hS) ml_RX8_257 sm_yX8_imaginary in_RX8 co_yX8_imaginary hd_X8_imaginary rfl ⟨by omega, by omega⟩ rfl (Nat.le_of_ble_eq_true rfl) ⟨by omega, by omega⟩ dX8_begun_15 (fun v15 w15 hp15 => ?_)
  obtain ⟨rfl, hw15⟩ := hp15
  subst w15
  refine g_iastore C wpush_s (by omega) dX8_begun_18 ?_
  rw [wset_push]
  refine g_dup C dX8_begun_19 rfl ?_
  refine g_iconst C dX8_begun_20 ?_
  refine g_iconst C dX8_begun_21 ?_
  refine g_iastore C wpush_s (by omega) dX8_begun_22 ?_
  rw [wset_push]
  refine g_dup C dX8_begun_23 rfl ?_
  refine g_iconst C dX8_begun_24 ?_
  refine g_iconst C dX8_begun_25 ?_
  refine g_iastore C wpush_s (by omega) dX8_begun_26 ?_
  rw [wset_push]
  refine g_dup C dX8_begun_27 rfl ?_
  refine g_iconst C dX8_begun_28 ?_
  refine g_iconst C dX8_begun_29 ?_
  refine g_iastore C wpush_s (by omega) dX8_begun_30 ?_
  rw [wset_push]
  exact g_areturn C (Or.inr ⟨_, rfl⟩) hQ (Or.inr ⟨_, rfl⟩) dX8_begun_31 (by omega) (by omega) ⟨_, rfl, rfl, SPb_v hS, rfl, rfl, rfl, rfl, rfl, rfl⟩
set_option maxHeartbeats 4000000 in
set_option maxRecDepth 100000 in
theorem c_X8_step (l : Launch) {E : GE} {w : Wd} {p k a : Nat} {f : Nat → Int} (ha : w.2 a = some (true, eI 6 f)) (hR : SpR f p k) (h0 : (spS p k).2.1 ≠ 0) : Sp E l yX8_step cX8_step 4 none 0 (1) (6) [.ref a] w (fun r w' => r = none ∧ ∃ f' g' : Nat → Int, w' = wset (wpush w (true, eI 6 g')) a (true, eI 6 f') ∧ SpR f' p (k + 1)) := by
  refine sp_intro [some (.ref a), none, none, none] rfl (Nat.le_of_ble_eq_true rfl) pn_X8 ?_
  intro X C hRm hl hnm hQ
  obtain ⟨hRf, hRl, hRc, hRs⟩ := hRm
  refine g_wf (fun hwf => ?_)
  obtain ⟨hV, e0, e1, e2, e3, e4, e5⟩ := hR
  have hg := hV.good
  have hp := hV.p
  have hne : a ≠ w.1 := Nat.ne_of_lt (hwf a _ ha)
  refine g_aload_n C dX8_step_0 rfl ?_
  refine g_iconst C dX8_step_1 ?_
  refine g_ialoadN (1) C ha (by omega) (by omega) dX8_step_2 ?_
  refine g_aload_n C dX8_step_3 rfl ?_
  refine g_iconst C dX8_step_4 ?_
  refine g_ialoadN (2) C ha (by omega) (by omega) dX8_step_5 ?_
  refine g_idivN C dX8_step_6 (by omega) (by omega) ?_
  refine g_istore_n C dX8_step_7 (by decide) rfl ?_
  refine g_bipush C dX8_step_8 (by decide) ?_
  refine g_newI C gw_arrayClass_int (N := 6) rfl (by omega) (by omega) dX8_step_10 ?_
  refine g_dup C dX8_step_12 rfl ?_
  refine g_iconst C dX8_step_13 ?_
  refine g_aload_n C dX8_step_14 rfl ?_
  refine g_iconst C dX8_step_15 ?_
  refine g_ialoadN (0) C (by rw [wpush_n hne]; exact ha) (by omega) (by omega) dX8_step_16 ?_
  refine g_iastore C wpush_s (by omega) dX8_step_17 ?_
  rw [wset_push]
  refine g_dup C dX8_step_18 rfl ?_
  refine g_iconst C dX8_step_19 ?_
  refine g_aload_n C dX8_step_20 rfl ?_
  refine g_iconst C dX8_step_21 ?_
  refine g_ialoadN (2) C (by rw [wpush_n hne]; exact ha) (by omega) (by omega) dX8_step_22 ?_
  refine g_iastore C wpush_s (by omega) dX8_step_23 ?_
  rw [wset_push]
  refine g_dup C dX8_step_24 rfl ?_
  refine g_iconst C dX8_step_25 ?_
  refine g_aload_n C dX8_step_26 rfl ?_
  refine g_iconst C dX8_step_27 ?_
  refine g_ialoadN (1) C (by rw [wpush_n hne]; exact ha) (by omega) (by omega) dX8_step_28 ?_
  refine g_iload_n C dX8_step_29 rfl ?_
  refine g_aload_n C dX8_step_30 rfl ?_
  refine g_iconst C dX8_step_31 ?_
  refine g_ialoadN (2) C (by rw [wpush_n hne]; exact ha) (by omega) (by omega) dX8_step_32 ?_
  refine g_imul C dX8_step_33 ?_
  refine g_isub C dX8_step_34 ?_
  refine g_iastore C wpush_s (by omega) dX8_step_35 ?_
  rw [wset_push]
  refine g_dup C dX8_step_36 rfl ?_
  refine g_iconst C dX8_step_37 ?_
  refine g_aload_n C dX8_step_38 rfl ?_
  refine g_iconst C dX8_step_39 ?_
  refine g_ialoadN (4) C (by rw [wpush_n hne]; exact ha) (by omega) (by omega) dX8_step_40 ?_
  refine g_iastore C wpush_s (by omega) dX8_step_41 ?_
  rw [wset_push]
  refine g_dup C dX8_step_42 rfl ?_
  refine g_iconst C dX8_step_43 ?_
  refine g_aload_n C dX8_step_44 rfl ?_
  refine g_iconst C dX8_step_45 ?_
  refine g_ialoadN (3) C (by rw [wpush_n hne]; exact ha) (by omega) (by omega) dX8_step_46 ?_
  refine g_iload_n C dX8_step_47 rfl ?_
  refine g_aload_n C dX8_step_48 rfl ?_
  refine g_iconst C dX8_step_49 ?_
  refine g_ialoadN (4) C (by rw [wpush_n hne]; exact ha) (by omega) (by omega) dX8_step_50 ?_
  refine g_imul C dX8_step_51 ?_
  refine g_isub C dX8_step_52 ?_
  refine g_iastore C wpush_s (by omega) dX8_step_53 ?_
  rw [wset_push]
  refine g_dup C dX8_step_54 rfl ?_
  refine g_iconst C dX8_step_55 ?_
  refine g_aload_n C dX8_step_56 rfl ?_
  refine g_iconst C dX8_step_57 ?_
  refine g_ialoadN (5) C (by rw [wpush_n hne]; exact ha) (by omega) (by omega) dX8_step_58 ?_
  refine g_iconst C dX8_step_59 ?_
  refine g_iadd C dX8_step_60 ?_
  refine g_iastore C wpush_s (by omega) dX8_step_61 ?_
  rw [wset_push]
  refine g_astore_n C dX8_step_62 (by decide) rfl ?_
  have hx := fun g : Nat → Int => (rfl : g = g)
  generalize hG : iup (iup (iup (iup (iup (iup (fun _ => 0) _ _) _ _) _ _) _ _) _ _) _ _ = gm
  refine g_iconst C dX8_step_63 ?_
  refine g_istore_n C dX8_step_64 (by decide) rfl ?_
  refine g_loop (σ := Nat × (Nat → Int)) (fun q => q.1 ≤ 6 ∧ ∀ i, i < q.1 → q.2 i = gm i) (fun q => G E X 4 65 [some (.ref a), some (iI (f 1 / f 2)), some (.ref w.1), some (iI (q.1 : Int))] [] (wset (wpush w (true, eI 6 gm)) a (true, eI 6 q.2)) 1 6) (fun q => 6 - q.1) ?_ (0, f) ⟨by dsimp only; omega, fun i hi => by dsimp only at hi; omega⟩ |> g_eqw (wset_id (by rw [wpush_n hne]; exact ha)).symm
  rintro ⟨j, h⟩ hq ih
  obtain ⟨hj, hh⟩ := hq
  dsimp only at hj hh ⊢
  refine g_iload_n C dX8_step_65 rfl ?_
  refine g_bipush C dX8_step_66 (by decide) ?_
  refine g_icmp_ge (tgt := 83) C dX8_step_68 (by decide) (by omega) (by omega) (fun h68 => ?_) (fun h68 => ?_)
  · exact g_return C hQ dX8_step_83 (by omega) (by omega) ⟨rfl, h, gm, rfl, hV.next h0, by
      have g0 := hh 0 (by omega)
      have g1 := hh 1 (by omega)
      have g2 := hh 2 (by omega)
      have g3 := hh 3 (by omega)
      have g4 := hh 4 (by omega)
      have g5 := hh 5 (by omega)
      subst hG
      refine ⟨g0.trans e0, g1.trans e2, g2.trans ?_, g3.trans e4, g4.trans ?_, g5.trans ?_⟩
      · show f 1 - f 1 / f 2 * f 2 = (spS p k).1 - (spS p k).1 / (spS p k).2.1 * (spS p k).2.1
        rw [e1, e2]
      · show f 3 - f 1 / f 2 * f 4 = (spS p k).2.2.1 - (spS p k).1 / (spS p k).2.1 * (spS p k).2.2.2
        rw [e1, e2, e3, e4]
      · show f 5 + 1 = ((k + 1 : Nat) : Int)
        rw [e5]; omega⟩
  · refine g_aload_n C dX8_step_71 rfl ?_
    refine g_iload_n C dX8_step_72 rfl ?_
    refine g_aload_n C dX8_step_73 rfl ?_
    refine g_iload_n C dX8_step_74 rfl ?_
    refine g_ialoadN (j) C (by rw [wset_n (Ne.symm hne)]; exact wpush_s) (by omega) (by omega) dX8_step_75 ?_
    refine g_iastoreN (j) C wset_s (by omega) (by omega) dX8_step_76 ?_
    rw [wset_set]
    refine g_iinc C dX8_step_77 rfl (by decide) rfl ?_
    refine g_goto (tgt := 65) C dX8_step_80 (by decide) ?_
    exact ih (j + 1, iup h j (gm j)) ⟨by dsimp only; omega, fun i hi => by
      dsimp only at hi ⊢
      by_cases q : i = j
      · rw [q, iup_s]
      · rw [iup_n q]; exact hh i (by omega)⟩ (by dsimp only; omega)
def FrX (w u : Wd) (a : Nat) : Prop := w.1 ≤ u.1 ∧ ∀ b, b < w.1 → b ≠ a → u.2 b = w.2 b
theorem FrX.rf (w : Wd) (a : Nat) : FrX w w a := ⟨Nat.le_refl _, fun _ _ _ => rfl⟩
set_option maxHeartbeats 4000000 in
set_option maxRecDepth 100000 in
theorem c_X8_settled (l : Launch) {E : GE} {w : Wd} {p k a : Nat} {f : Nat → Int} (ha : w.2 a = some (true, eI 6 f)) (hR : SpR f p k) : Sp E l yX8_settled cX8_settled 2 (some .int) 1 (20) (120) [.ref a] w (fun r w' => ∃ (j : Nat) (g : Nat → Int), r = some (iI (j : Int)) ∧ w'.2 a = some (true, eI 6 g) ∧ SpR g p (k + j) ∧ FrX w w' a ∧ (spS p (k + j)).1 * (spS p (k + j)).1 < p ∧ ∀ i, k ≤ i → i < k + j → p ≤ (spS p i).1 * (spS p i).1) := by
  refine sp_intro [some (.ref a), none] rfl (Nat.le_of_ble_eq_true rfl) pn_X8 ?_
  intro X C hRm hl hnm hQ
  obtain ⟨hRf, hRl, hRc, hRs⟩ := hRm
  refine g_wf (fun hwf => ?_)
  refine g_iconst C dX8_settled_0 ?_
  refine g_istore_n C dX8_settled_1 (by decide) rfl ?_
  have hp := hR.1.p
  refine g_loop (σ := Nat × Wd × (Nat → Int)) (fun q => q.2.1.2 a = some (true, eI 6 q.2.2) ∧ SpR q.2.2 p (k + q.1) ∧ FrX w q.2.1 a ∧ ∀ j, k ≤ j → j < k + q.1 → p ≤ (spS p j).1 * (spS p j).1) (fun q => G E X 2 2 [some (.ref a), some (iI (q.1 : Int))] [] q.2.1 q.1 (6 * q.1)) (fun q => 20 - q.1) ?_ (0, w, f) ⟨ha, hR, FrX.rf w a, fun j h1 h2 => by dsimp only at h2; omega⟩
  rintro ⟨j, u, g⟩ hq ih
  obtain ⟨hu, hRg, hfr, hall⟩ := hq
  dsimp only at hu hRg hfr hall ⊢
  refine g_wf (fun hwu => ?_)
  have hau := hwu a _ hu
  have hgd := hRg.1.good
  obtain ⟨hV, e0, e1, e2, e3, e4, e5⟩ := id hRg
  have g1 : 0 ≤ g 1 ∧ g 1 ≤ 997 := by omega
  have m1 : 0 ≤ g 1 * g 1 := Int.mul_nonneg g1.1 g1.1
  have m2 : g 1 * g 1 ≤ 997 * 997 := Int.mul_le_mul g1.2 g1.2 g1.1 (by omega)
  refine g_aload_n C dX8_settled_2 rfl ?_
  refine g_iconst C dX8_settled_3 ?_
  refine g_ialoadN (1) C hu (by omega) (by omega) dX8_settled_4 ?_
  refine g_aload_n C dX8_settled_5 rfl ?_
  refine g_iconst C dX8_settled_6 ?_
  refine g_ialoadN (1) C hu (by omega) (by omega) dX8_settled_7 ?_
  refine g_imul C dX8_settled_8 ?_
  refine g_aload_n C dX8_settled_9 rfl ?_
  refine g_iconst C dX8_settled_10 ?_
  refine g_ialoadN (0) C hu (by omega) (by omega) dX8_settled_11 ?_
  refine g_icmp_lt (tgt := 25) C dX8_settled_12 (by decide) (by omega) (by omega) (fun h12 => ?_) (fun h12 => ?_)
  · refine g_iload_n C dX8_settled_25 rfl ?_
    exact g_ireturn C hQ dX8_settled_26 (by omega) (by omega) ⟨j, g, rfl, hu, hRg, hfr, by rw [← e1]; omega, hall⟩
  · have h0 : (spS p (k + j)).2.1 ≠ 0 := fun q => by
      have q2 := hgd.2.2.2.2.2.1 q
      rw [q2] at e1
      rw [e1] at h12
      omega
    refine g_aload_n C dX8_settled_15 rfl ?_
    refine g_callS C (c_X8_step _ hu hRg h0) ml_RX8_260 sm_yX8_step in_RX8 co_yX8_step hd_X8_step rfl ⟨by omega, by omega⟩ rfl (Nat.le_of_ble_eq_true rfl) ⟨by omega, by omega⟩ dX8_settled_16 (fun v16 w16 hp16 => ?_)
    obtain ⟨rfl, f', g', rfl, hR'⟩ := hp16
    refine g_iinc C dX8_settled_19 rfl (by decide) rfl ?_
    refine g_goto (tgt := 2) C dX8_settled_22 (by decide) ?_
    exact ih (j + 1, _, f') ⟨wset_s, hR', ⟨by have := hfr.1; show w.1 ≤ u.1 + 1; omega, fun b hb hba => by show (wset (wpush u (true, eI 6 g')) a (true, eI 6 f')).2 b = _; rw [wset_n hba, wpush_n (by have := hfr.1; omega)]; exact hfr.2 b hb hba⟩, fun i h1 h2 => by
      dsimp only at h2
      rcases Nat.lt_or_ge i (k + j) with q | q
      · exact hall i h1 q
      · rw [show i = k + j by omega, ← e1]; omega⟩ (by dsimp only; omega)
def sup (sp : Nat → Nat → Int) (i : Nat) (f : Nat → Int) : Nat → Nat → Int := fun j => if j = i then f else sp j
abbrev MA.setZ (A : MA) (R : Nat → Option Nat) : MA := (A.1, A.2.1, A.2.2.1, A.2.2.2.1, A.2.2.2.2.1, A.2.2.2.2.2.1, A.2.2.2.2.2.2.1, A.2.2.2.2.2.2.2.1, A.2.2.2.2.2.2.2.2.1, R)
theorem FrX.push {w : Wd} {a : Nat} (ha : a < w.1) (e e' : WdE) : FrX w (wset (wpush w e) a e') a := ⟨Nat.le_succ _, fun b hb hba => by rw [wset_n hba, wpush_n (by omega)]⟩
section
variable {τ : Nat → Nat} {w w' : Wd} {m : Nat} {A : MA} {th : Int} {ba st pb le ri : Nat → Int} {sp : Nat → Nat → Int} {ct : Nat → Int}
theorem MSx.frx (h : MSx τ w m A th ba st pb le ri sp ct) (hw : wF w) {i q : Nat} (hi : i < 3) (hq : A.2.2.2.2.2.2.2.2.2 i = some q) (hx : FrX w w' q) {g : Nat → Int} (hg : w'.2 q = some (true, eI 6 g)) : MSx τ w' m A th ba st pb le ri (sup sp i g) ct := by
  have t := h.tg
  obtain ⟨q', a', b', c'⟩ := h.Z hi
  have eq : q' = q := Option.some.inj (a'.symm.trans hq)
  subst eq
  have k : ∀ {a : Nat} {x : WdE}, τ a ≠ 10 + i → w.2 a = some x → w'.2 a = some x := fun {a x} ha hx' => by
    rw [hx.2 a (hw a x hx') (fun e => ha (by rw [e]; exact b'))]; exact hx'
  refine ⟨k (by omega) h.o, t, ⟨k (by omega) h.b, k (by omega) h.s, k (by omega) h.p, k (by omega) h.c⟩, ⟨k (by omega) h.l, k (by omega) h.r, k (by omega) h.z⟩, fun j hj => ?_, fun j hj => ?_, fun j hj => ?_⟩
  · obtain ⟨q, a, b, n, f, c, d⟩ := h.L hj
    exact ⟨q, a, b, n, f, k (by omega) c, d⟩
  · obtain ⟨q, a, b, n, f, c, d⟩ := h.R hj
    exact ⟨q, a, b, n, f, k (by omega) c, d⟩
  · by_cases e : j = i
    · subst e
      exact ⟨q', hq, b', by unfold sup; rw [if_pos rfl]; exact hg⟩
    · obtain ⟨q, a, b, c⟩ := h.Z hj
      exact ⟨q, a, b, by unfold sup; rw [if_neg e]; exact k (by omega) c⟩
theorem MSx.setZ (h : MSx τ w m A th ba st pb le ri sp ct) {i q : Nat} (hi : i < 3) (hq : τ q = 10 + i) {f : Nat → Int} (hf : w.2 q = some (true, eI 6 f)) : MSx τ (wset w A.2.2.2.2.2.1 (true, eR 2 3 (rup A.2.2.2.2.2.2.2.2.2 i (some q)))) m (A.setZ (rup A.2.2.2.2.2.2.2.2.2 i (some q))) th ba st pb le ri (sup sp i f) ct := by
  have t := h.tg
  have k : ∀ a, τ a ≠ 7 → (wset w A.2.2.2.2.2.1 (true, eR 2 3 (rup A.2.2.2.2.2.2.2.2.2 i (some q)))).2 a = w.2 a := fun a ha => wset_n (fun e => ha (by rw [e]; omega))
  refine ⟨(k m (by omega)).trans h.o, t, ⟨(k A.1 (by omega)).trans h.b, (k A.2.1 (by omega)).trans h.s, (k A.2.2.1 (by omega)).trans h.p, (k A.2.2.2.2.2.2.1 (by omega)).trans h.c⟩, ⟨(k A.2.2.2.1 (by omega)).trans h.l, (k A.2.2.2.2.1 (by omega)).trans h.r, wset_s⟩, fun j hj => ?_, fun j hj => ?_, fun j hj => ?_⟩
  · obtain ⟨q, a, b, c⟩ := h.L hj
    exact ⟨q, a, b, c.keep (k q (by omega))⟩
  · obtain ⟨q, a, b, c⟩ := h.R hj
    exact ⟨q, a, b, c.keep (k q (by omega))⟩
  · by_cases e : j = i
    · subst e
      exact ⟨q, rup_s, hq, by unfold sup; rw [if_pos rfl]; exact (k _ (by omega)).trans hf⟩
    · obtain ⟨q', a, b, c⟩ := h.Z hj
      exact ⟨q', (rup_n e).trans a, b, by unfold sup; rw [if_neg e]; exact (k _ (by omega)).trans c⟩
theorem Keep.trT {τ' : Nat → Nat} {u v : Wd} (h : Keep τ w u) (g : Keep τ' u v) (hw : wF w) (e : ∀ a, a < w.1 → τ' a = τ a) : Keep τ w v := ⟨Nat.le_trans h.1 g.1, fun a x t hx => g.2 a x (by rw [e a (hw a x hx)]; exact t) (h.2 a x t hx)⟩
theorem Keep.frx (hx : FrX w w' m) (hw : wF w) (ht : τ m < 100) : Keep τ w w' := ⟨hx.1, fun a x ha e => by rw [hx.2 a (hw a x e) (fun q => by subst q; omega)]; exact e⟩
end
theorem SPb_iff {N : Nat} : SPb N = true ↔ (5 ≤ N ∧ N ≤ 997) ∧ N % 4 = 1 ∧ prB N = true := by
  simp only [SPb, Bool.and_eq_true, decide_eq_true_eq, and_assoc]
def HZp (sp : Nat → Nat → Int) : Prop := ∀ i, i < 3 → ∃ p k, SpR (sp i) p k
/-- what splitNumber tells -/
def szV (f : Nat → Int) (what : Int) : Int := if what = 0 then f 0 else if what = 1 then ((wit (f 0).toNat : Nat) : Int) else if what = 2 then ((ima (f 0).toNat : Nat) : Int) else f (what - 2).toNat
set_option maxHeartbeats 4000000 in
set_option maxRecDepth 100000 in
theorem c_X8_euclid (l : Launch) {E : GE} {w : Wd} {v : Int} (h_v : -2147483648 ≤ v ∧ v < 2147483648) {τ : Nat → Nat} {m : Nat} {A : MA} {th : Int} {ba st pb le ri : Nat → Int} {sp : Nat → Nat → Int} {ct : Nat → Int} (hM : MSx τ w m A th ba st pb le ri sp ct) (hZ : HZp sp) : Sp E l yX8_euclid cX8_euclid 2 (some .int) 2 (1) (6) [.ref m, iI v] w (fun r w' => ∃ (t : Int) (sp' : Nat → Nat → Int) (ct' : Nat → Int) (ans : Int), r = some (iI ans) ∧ MSx τ w' m A (t) (ba) (st) (pb) (le) (ri) (sp') (ct') ∧ Keep τ w w' ∧ (¬ (0 ≤ v ∧ v ≤ 2) ∧ t = 1 ∧ ans = 0 ∧ sp' = sp ∧ ct' = ct ∨ (0 ≤ v ∧ v ≤ 2) ∧ t = 0 ∧ sp v.toNat 2 = 0 ∧ ans = -9 ∧ sp' = sp ∧ ct' = iup ct 3 (ct 3 + 1) ∨ (0 ≤ v ∧ v ≤ 2) ∧ t = 0 ∧ sp v.toNat 2 ≠ 0 ∧ ∃ (p k : Nat) (f : Nat → Int), SpR (sp v.toNat) p k ∧ SpR f p (k + 1) ∧ ans = f 2 ∧ sp' = sup sp v.toNat f ∧ ct' = iup ct 2 (ct 2 + 1))) := by
  refine sp_intro [some (.ref m), some (iI v)] rfl (Nat.le_of_ble_eq_true rfl) pn_X8 ?_
  intro X C hRm hl hnm hQ
  obtain ⟨hRf, hRl, hRc, hRs⟩ := hRm
  refine g_wf (fun hwf => ?_)
  refine g_aload_n C dX8_euclid_0 rfl ?_
  refine g_iload_n C dX8_euclid_1 rfl ?_
  refine g_callS C (c_X8_isNo _ (v := v) h_v) ml_RX8_145 sm_yX8_isNo in_RX8 co_yX8_isNo hd_X8_isNo rfl ⟨by omega, by omega⟩ rfl (Nat.le_of_ble_eq_true rfl) ⟨by omega, by omega⟩ dX8_euclid_2 (fun v2 w2 hp2 => ?_)
  obtain ⟨rfl, hw2⟩ := hp2
  subst w2
  refine g_iconst C dX8_euclid_5 ?_
  refine g_callV C (c_X8_start _ hM (y := bI (¬ (0 ≤ v ∧ v ≤ 2))) (wh := 1) (bI_01 _) (by omega)) (ci := 10) rfl hM.o rfl ml_RX8_149 im_yX8_start se_RX8_yX8_start in_RX8 co_yX8_start hd_X8_start rfl ⟨by omega, by omega⟩ rfl (Nat.le_of_ble_eq_true rfl) ⟨by omega, by omega⟩ dX8_euclid_6 (fun v6 w6 hp6 => ?_)
  obtain ⟨t6, rfl, ht6, hM6, hK6⟩ := hp6
  have hy6 : (bI (¬ (0 ≤ v ∧ v ≤ 2))) = 0 ∨ (bI (¬ (0 ≤ v ∧ v ≤ 2))) = 1 := (bI_01 _)
  refine g_if_eq (tgt := 14) C dX8_euclid_9 (by decide) (bI_r _) (fun h9 => ?_) (fun h9 => ?_)
  · have hwk : 0 ≤ v ∧ v ≤ 2 := Classical.not_not.mp (bI_0 h9)
    obtain ⟨q, hq, tq, eq⟩ := hM6.Z (i := v.toNat) (by omega)
    obtain ⟨p, k, hR⟩ := hZ v.toNat (by omega)
    have hgd := hR.1.good
    have hpp := hR.1.p
    have e2 := hR.2.2.2.1
    refine g_wf (fun hwf6 => ?_)
    have hql := hwf6 q _ eq
    refine g_aload_n C dX8_euclid_14 rfl ?_
    refine g_get (ci := 10) C rfl inTX8 6 (by decide) fl_RX8_35 rfl hM6.o rfl dX8_euclid_15 ?_
    refine g_iload_n C dX8_euclid_18 rfl ?_
    refine g_aaloadN (v.toNat) C rfl rfl hM6.z (by omega) (by omega) hq dX8_euclid_19 ?_
    refine g_iconst C dX8_euclid_20 ?_
    refine g_ialoadN (2) C eq (by omega) (by omega) dX8_euclid_21 ?_
    refine g_if_ne (tgt := 30) C dX8_euclid_22 (by decide) (by omega) (fun h22 => ?_) (fun h22 => ?_)
    · refine g_aload_n C dX8_euclid_30 rfl ?_
      refine g_get (ci := 10) C rfl inTX8 6 (by decide) fl_RX8_35 rfl hM6.o rfl dX8_euclid_31 ?_
      refine g_iload_n C dX8_euclid_34 rfl ?_
      refine g_aaloadN (v.toNat) C rfl rfl hM6.z (by omega) (by omega) hq dX8_euclid_35 ?_
      refine g_callS C (c_X8_step _ eq hR (by rw [← e2]; exact h22)) ml_RX8_260 sm_yX8_step in_RX8 co_yX8_step hd_X8_step rfl ⟨by omega, by omega⟩ rfl (Nat.le_of_ble_eq_true rfl) ⟨by omega, by omega⟩ dX8_euclid_36 (fun v36 w36 hp36 => ?_)
      obtain ⟨rfl, f', g', rfl, hR'⟩ := hp36
      have fx := FrX.push (w := w6) hql (true, eI 6 g') (true, eI 6 f')
      have hM8 := hM6.frx hwf6 (by omega) hq fx wset_s
      refine g_aload_n C dX8_euclid_39 rfl ?_
      refine g_iconst C dX8_euclid_40 ?_
      refine g_aload_n C dX8_euclid_41 rfl ?_
      refine g_get (ci := 10) C rfl inTX8 6 (by decide) fl_RX8_35 rfl hM8.o rfl dX8_euclid_42 ?_
      refine g_iload_n C dX8_euclid_45 rfl ?_
      refine g_aaloadN (v.toNat) C rfl rfl hM8.z (by omega) (by omega) hq dX8_euclid_46 ?_
      refine g_iconst C dX8_euclid_47 ?_
      refine g_ialoadN (2) C wset_s (by omega) (by omega) dX8_euclid_48 ?_
      refine g_callV C (c_X8_done _ hM8 (kd := 2) (to := f' 2) (by omega)) (ci := 10) rfl hM8.o rfl ml_RX8_155 im_yX8_done se_RX8_yX8_done in_RX8 co_yX8_done hd_X8_done rfl ⟨by omega, by omega⟩ rfl (Nat.le_of_ble_eq_true rfl) ⟨by omega, by omega⟩ dX8_euclid_49 (fun v49 w49 hp49 => ?_)
      obtain ⟨rfl, hM9, hK9⟩ := hp49
      exact g_ireturn C hQ dX8_euclid_52 (by omega) (by omega) ⟨t6, _, _, _, rfl, hM9, (hK6.tr (Keep.frx fx hwf6 (by omega))).tr hK9, Or.inr (Or.inr ⟨hwk, by omega, by omega, p, k, f', hR, hR', rfl, rfl, rfl⟩)⟩
    · refine g_aload_n C dX8_euclid_25 rfl ?_
      refine g_callV C (c_X8_cannot _ hM6) (ci := 10) rfl hM6.o rfl ml_RX8_158 im_yX8_cannot se_RX8_yX8_cannot in_RX8 co_yX8_cannot hd_X8_cannot rfl ⟨by omega, by omega⟩ rfl (Nat.le_of_ble_eq_true rfl) ⟨by omega, by omega⟩ dX8_euclid_26 (fun v26 w26 hp26 => ?_)
      obtain ⟨rfl, hM9, hK9⟩ := hp26
      exact g_ireturn C hQ dX8_euclid_29 (by omega) (by omega) ⟨t6, sp, _, -9, rfl, hM9, hK6.tr hK9, Or.inr (Or.inl ⟨hwk, by omega, by omega, rfl, rfl, rfl⟩)⟩
  · refine g_iconst C dX8_euclid_12 ?_
    exact g_ireturn C hQ dX8_euclid_13 (by omega) (by omega) ⟨t6, sp, ct, 0, rfl, hM6, hK6, Or.inl ⟨bI_1 h9, by omega, rfl, rfl, rfl⟩⟩
set_option maxHeartbeats 4000000 in
set_option maxRecDepth 100000 in
theorem c_X8_settle (l : Launch) {E : GE} {w : Wd} {v : Int} (h_v : -2147483648 ≤ v ∧ v < 2147483648) {τ : Nat → Nat} {m : Nat} {A : MA} {th : Int} {ba st pb le ri : Nat → Int} {sp : Nat → Nat → Int} {ct : Nat → Int} (hM : MSx τ w m A th ba st pb le ri sp ct) (hZ : HZp sp) : Sp E l yX8_settle cX8_settle 2 (some .int) 2 (20) (120) [.ref m, iI v] w (fun r w' => ∃ (t : Int) (sp' : Nat → Nat → Int) (ct' : Nat → Int) (ans : Int), r = some (iI ans) ∧ MSx τ w' m A (t) (ba) (st) (pb) (le) (ri) (sp') (ct') ∧ Keep τ w w' ∧ (¬ (0 ≤ v ∧ v ≤ 2) ∧ t = 1 ∧ ans = 0 ∧ sp' = sp ∧ ct' = ct ∨ (0 ≤ v ∧ v ≤ 2) ∧ t = 0 ∧ ∃ (p k j : Nat) (f : Nat → Int), SpR (sp v.toNat) p k ∧ SpR f p (k + j) ∧ (spS p (k + j)).1 * (spS p (k + j)).1 < p ∧ (∀ i, k ≤ i → i < k + j → p ≤ (spS p i).1 * (spS p i).1) ∧ ans = j ∧ sp' = sup sp v.toNat f ∧ ct' = iup ct 2 (ct 2 + 1))) := by
  refine sp_intro [some (.ref m), some (iI v)] rfl (Nat.le_of_ble_eq_true rfl) pn_X8 ?_
  intro X C hRm hl hnm hQ
  obtain ⟨hRf, hRl, hRc, hRs⟩ := hRm
  refine g_wf (fun hwf => ?_)
  refine g_aload_n C dX8_settle_0 rfl ?_
  refine g_iload_n C dX8_settle_1 rfl ?_
  refine g_callS C (c_X8_isNo _ (v := v) h_v) ml_RX8_145 sm_yX8_isNo in_RX8 co_yX8_isNo hd_X8_isNo rfl ⟨by omega, by omega⟩ rfl (Nat.le_of_ble_eq_true rfl) ⟨by omega, by omega⟩ dX8_settle_2 (fun v2 w2 hp2 => ?_)
  obtain ⟨rfl, hw2⟩ := hp2
  subst w2
  refine g_iconst C dX8_settle_5 ?_
  refine g_callV C (c_X8_start _ hM (y := bI (¬ (0 ≤ v ∧ v ≤ 2))) (wh := 1) (bI_01 _) (by omega)) (ci := 10) rfl hM.o rfl ml_RX8_149 im_yX8_start se_RX8_yX8_start in_RX8 co_yX8_start hd_X8_start rfl ⟨by omega, by omega⟩ rfl (Nat.le_of_ble_eq_true rfl) ⟨by omega, by omega⟩ dX8_settle_6 (fun v6 w6 hp6 => ?_)
  obtain ⟨t6, rfl, ht6, hM6, hK6⟩ := hp6
  have hy6 : (bI (¬ (0 ≤ v ∧ v ≤ 2))) = 0 ∨ (bI (¬ (0 ≤ v ∧ v ≤ 2))) = 1 := (bI_01 _)
  refine g_if_eq (tgt := 16) C dX8_settle_9 (by decide) (bI_r _) (fun h9 => ?_) (fun h9 => ?_)
  · have hwk : 0 ≤ v ∧ v ≤ 2 := Classical.not_not.mp (bI_0 h9)
    obtain ⟨q, hq, tq, eq⟩ := hM6.Z (i := v.toNat) (by omega)
    obtain ⟨p, k, hR⟩ := hZ v.toNat (by omega)
    refine g_wf (fun hwf6 => ?_)
    refine g_aload_n C dX8_settle_16 rfl ?_
    refine g_iconst C dX8_settle_17 ?_
    refine g_aload_n C dX8_settle_18 rfl ?_
    refine g_get (ci := 10) C rfl inTX8 6 (by decide) fl_RX8_35 rfl hM6.o rfl dX8_settle_19 ?_
    refine g_iload_n C dX8_settle_22 rfl ?_
    refine g_aaloadN (v.toNat) C rfl rfl hM6.z (by omega) (by omega) hq dX8_settle_23 ?_
    refine g_callS C (c_X8_settled _ eq hR) ml_RX8_267 sm_yX8_settled in_RX8 co_yX8_settled hd_X8_settled rfl ⟨by omega, by omega⟩ rfl (Nat.le_of_ble_eq_true rfl) ⟨by omega, by omega⟩ dX8_settle_24 (fun v24 w24 hp24 => ?_)
    obtain ⟨j, g, rfl, hg, hRg, fx, hlt, hall⟩ := hp24
    have hM8 := hM6.frx hwf6 (by omega) hq fx hg
    refine g_callV C (c_X8_done _ hM8 (kd := 2) (to := (j : Int)) (by omega)) (ci := 10) rfl hM8.o rfl ml_RX8_155 im_yX8_done se_RX8_yX8_done in_RX8 co_yX8_done hd_X8_done rfl ⟨by omega, by omega⟩ rfl (Nat.le_of_ble_eq_true rfl) ⟨by omega, by omega⟩ dX8_settle_27 (fun v27 w27 hp27 => ?_)
    obtain ⟨rfl, hM9, hK9⟩ := hp27
    exact g_ireturn C hQ dX8_settle_30 (by omega) (by omega) (by
      first
      | exact ⟨t6, sp, ct, 0, rfl, hM6, hK6, Or.inl ⟨bI_1 h9, by omega, rfl, rfl, rfl⟩⟩
      | exact ⟨t6, _, _, _, rfl, hM9, (hK6.tr (Keep.frx fx hwf6 (by omega))).tr hK9, Or.inr ⟨hwk, by omega, p, k, j, g, hR, hRg, hlt, hall, rfl, rfl, rfl⟩⟩)
  · refine g_iconst C dX8_settle_12 ?_
    refine g_goto (tgt := 30) C dX8_settle_13 (by decide) ?_
    exact g_ireturn C hQ dX8_settle_30 (by omega) (by omega) (by
      first
      | exact ⟨t6, sp, ct, 0, rfl, hM6, hK6, Or.inl ⟨bI_1 h9, by omega, rfl, rfl, rfl⟩⟩
      | exact ⟨t6, _, _, _, rfl, hM9, (hK6.tr (Keep.frx fx hwf6 (by omega))).tr hK9, Or.inr ⟨hwk, by omega, p, k, j, g, hR, hRg, hlt, hall, rfl, rfl, rfl⟩⟩)
set_option maxHeartbeats 4000000 in
set_option maxRecDepth 100000 in
theorem c_X8_splitOf (l : Launch) {E : GE} {w : Wd} {τ : Nat → Nat} {m : Nat} {A : MA} {th : Int} {ba st pb le ri : Nat → Int} {sp : Nat → Nat → Int} {ct : Nat → Int} (hM : MSx τ w m A th ba st pb le ri sp ct) {i p k : Nat} {what : Int} (hi : i < 3) (hw : 0 ≤ what ∧ what ≤ 7) (hR : SpR (sp i) p k) : Sp E l yX8_splitOf cX8_splitOf 4 (some .int) 3 (0) (0) [.ref m, iI (i : Int), iI what] w (fun r w' => r = some (iI (szV (sp i) what)) ∧ w' = w) := by
  refine sp_intro [some (.ref m), some (iI (i : Int)), some (iI what), none] rfl (Nat.le_of_ble_eq_true rfl) pn_X8 ?_
  intro X C hRm hl hnm hQ
  obtain ⟨hRf, hRl, hRc, hRs⟩ := hRm
  refine g_wf (fun hwf => ?_)
  obtain ⟨q, hq, tq, eq⟩ := hM.Z hi
  have hV := hR.1
  have e0 := hR.2.1
  have hpp := hV.p
  have e0n : (sp i 0).toNat = p := by omega
  refine g_aload_n C dX8_splitOf_0 rfl ?_
  refine g_get (ci := 10) C rfl inTX8 6 (by decide) fl_RX8_35 rfl hM.o rfl dX8_splitOf_1 ?_
  refine g_iload_n C dX8_splitOf_4 rfl ?_
  refine g_aaloadN (i) C rfl rfl hM.z (by omega) (by omega) hq dX8_splitOf_5 ?_
  refine g_astore_n C dX8_splitOf_6 (by decide) rfl ?_
  refine g_iload_n C dX8_splitOf_7 rfl ?_
  refine g_if_ne (tgt := 17) C dX8_splitOf_8 (by decide) (by omega) (fun h8 => ?_) (fun h8 => ?_)
  · refine g_iload_n C dX8_splitOf_17 rfl ?_
    refine g_iconst C dX8_splitOf_18 ?_
    refine g_icmp_ne (tgt := 31) C dX8_splitOf_19 (by decide) (by omega) (by omega) (fun h19 => ?_) (fun h19 => ?_)
    · refine g_iload_n C dX8_splitOf_31 rfl ?_
      refine g_iconst C dX8_splitOf_32 ?_
      refine g_icmp_ne (tgt := 45) C dX8_splitOf_33 (by decide) (by omega) (by omega) (fun h33 => ?_) (fun h33 => ?_)
      · refine g_aload_n C dX8_splitOf_45 rfl ?_
        refine g_iload_n C dX8_splitOf_46 rfl ?_
        refine g_iconst C dX8_splitOf_47 ?_
        refine g_isub C dX8_splitOf_48 ?_
        refine g_ialoadN ((what - 2).toNat) C eq (by omega) (by omega) dX8_splitOf_49 ?_
        exact g_ireturn C hQ dX8_splitOf_50 (Nat.le_refl _) (Nat.le_refl _) ⟨by unfold szV; first | rw [if_pos (by omega)] | rw [if_neg (by omega), if_pos (by omega), e0n] | rw [if_neg (by omega), if_neg (by omega), if_pos (by omega), e0n] | rw [if_neg (by omega), if_neg (by omega), if_neg (by omega)], rfl⟩
      · refine g_aload_n C dX8_splitOf_36 rfl ?_
        refine g_iconst C dX8_splitOf_37 ?_
        refine g_ialoadN (0) C eq (by omega) (by omega) dX8_splitOf_38 ?_
        rw [e0]
        refine g_callS C (c_X8_imaginary _ hV.1) ml_RX8_257 sm_yX8_imaginary in_RX8 co_yX8_imaginary hd_X8_imaginary rfl ⟨by omega, by omega⟩ rfl (Nat.le_of_ble_eq_true rfl) ⟨by omega, by omega⟩ dX8_splitOf_39 (fun v39 w39 hp39 => ?_)
        obtain ⟨rfl, hw39⟩ := hp39
        subst w39
        refine g_goto (tgt := 50) C dX8_splitOf_42 (by decide) ?_
        exact g_ireturn C hQ dX8_splitOf_50 (Nat.le_refl _) (Nat.le_refl _) ⟨by unfold szV; first | rw [if_pos (by omega)] | rw [if_neg (by omega), if_pos (by omega), e0n] | rw [if_neg (by omega), if_neg (by omega), if_pos (by omega), e0n] | rw [if_neg (by omega), if_neg (by omega), if_neg (by omega)], rfl⟩
    · refine g_aload_n C dX8_splitOf_22 rfl ?_
      refine g_iconst C dX8_splitOf_23 ?_
      refine g_ialoadN (0) C eq (by omega) (by omega) dX8_splitOf_24 ?_
      rw [e0]
      refine g_callS C (c_X8_witness _ hV.1) ml_RX8_254 sm_yX8_witness in_RX8 co_yX8_witness hd_X8_witness rfl ⟨by omega, by omega⟩ rfl (Nat.le_of_ble_eq_true rfl) ⟨by omega, by omega⟩ dX8_splitOf_25 (fun v25 w25 hp25 => ?_)
      obtain ⟨rfl, hw25⟩ := hp25
      subst w25
      refine g_goto (tgt := 50) C dX8_splitOf_28 (by decide) ?_
      exact g_ireturn C hQ dX8_splitOf_50 (Nat.le_refl _) (Nat.le_refl _) ⟨by unfold szV; first | rw [if_pos (by omega)] | rw [if_neg (by omega), if_pos (by omega), e0n] | rw [if_neg (by omega), if_neg (by omega), if_pos (by omega), e0n] | rw [if_neg (by omega), if_neg (by omega), if_neg (by omega)], rfl⟩
  · refine g_aload_n C dX8_splitOf_11 rfl ?_
    refine g_iconst C dX8_splitOf_12 ?_
    refine g_ialoadN (0) C eq (by omega) (by omega) dX8_splitOf_13 ?_
    refine g_goto (tgt := 50) C dX8_splitOf_14 (by decide) ?_
    exact g_ireturn C hQ dX8_splitOf_50 (Nat.le_refl _) (Nat.le_refl _) ⟨by unfold szV; first | rw [if_pos (by omega)] | rw [if_neg (by omega), if_pos (by omega), e0n] | rw [if_neg (by omega), if_neg (by omega), if_pos (by omega), e0n] | rw [if_neg (by omega), if_neg (by omega), if_neg (by omega)], rfl⟩
set_option maxHeartbeats 4000000 in
set_option maxRecDepth 100000 in
theorem c_X8_splitNumber (l : Launch) {E : GE} {w : Wd} {v what : Int} (h_v : -2147483648 ≤ v ∧ v < 2147483648) (h_what : -2147483648 ≤ what ∧ what < 2147483648) {τ : Nat → Nat} {m : Nat} {A : MA} {th : Int} {ba st pb le ri : Nat → Int} {sp : Nat → Nat → Int} {ct : Nat → Int} (hM : MSx τ w m A th ba st pb le ri sp ct) (hZ : HZp sp) : Sp E l yX8_splitNumber cX8_splitNumber 3 (some .int) 4 (0) (0) [.ref m, iI v, iI what] w (fun r w' => ∃ (t : Int) (ans : Int), r = some (iI ans) ∧ MSx τ w' m A (t) (ba) (st) (pb) (le) (ri) (sp) (ct) ∧ Keep τ w w' ∧ (¬ (0 ≤ v ∧ v ≤ 2) ∧ t = 1 ∧ ans = 0 ∨ (0 ≤ v ∧ v ≤ 2) ∧ ¬ (0 ≤ what ∧ what ≤ 7) ∧ t = 2 ∧ ans = 0 ∨ (0 ≤ v ∧ v ≤ 2) ∧ (0 ≤ what ∧ what ≤ 7) ∧ t = 0 ∧ ans = szV (sp v.toNat) what)) := by
  refine sp_intro [some (.ref m), some (iI v), some (iI what)] rfl (Nat.le_of_ble_eq_true rfl) pn_X8 ?_
  intro X C hRm hl hnm hQ
  obtain ⟨hRf, hRl, hRc, hRs⟩ := hRm
  refine g_wf (fun hwf => ?_)
  refine g_aload_n C dX8_splitNumber_0 rfl ?_
  refine g_iload_n C dX8_splitNumber_1 rfl ?_
  refine g_callS C (c_X8_isNo _ (v := v) h_v) ml_RX8_145 sm_yX8_isNo in_RX8 co_yX8_isNo hd_X8_isNo rfl ⟨by omega, by omega⟩ rfl (Nat.le_of_ble_eq_true rfl) ⟨by omega, by omega⟩ dX8_splitNumber_2 (fun v2 w2 hp2 => ?_)
  obtain ⟨rfl, hw2⟩ := hp2
  subst w2
  refine g_iconst C dX8_splitNumber_5 ?_
  refine g_callV C (c_X8_start _ hM (y := bI (¬ (0 ≤ v ∧ v ≤ 2))) (wh := 1) (bI_01 _) (by omega)) (ci := 10) rfl hM.o rfl ml_RX8_149 im_yX8_start se_RX8_yX8_start in_RX8 co_yX8_start hd_X8_start rfl ⟨by omega, by omega⟩ rfl (Nat.le_of_ble_eq_true rfl) ⟨by omega, by omega⟩ dX8_splitNumber_6 (fun v6 w6 hp6 => ?_)
  obtain ⟨t6, rfl, ht6, hM6, hK6⟩ := hp6
  have hy6 : (bI (¬ (0 ≤ v ∧ v ≤ 2))) = 0 ∨ (bI (¬ (0 ≤ v ∧ v ≤ 2))) = 1 := (bI_01 _)
  refine g_if_ne (tgt := 35) C dX8_splitNumber_9 (by decide) (bI_r _) (fun h9 => ?_) (fun h9 => ?_)
  · refine g_iconst C dX8_splitNumber_35 ?_
    refine g_goto (tgt := 45) C dX8_splitNumber_36 (by decide) ?_
    exact g_ireturn C hQ dX8_splitNumber_45 (Nat.le_refl _) (Nat.le_refl _) (by
      first
      | exact ⟨t, _, rfl, hM7, hK67, Or.inr (Or.inr ⟨hwk, by omega, by omega, rfl⟩)⟩
      | exact ⟨t, 0, rfl, hM7, hK67, Or.inr (Or.inl ⟨hwk, by have := bI_1 h32; omega, by have := bI_1 h32; omega, rfl⟩)⟩
      | exact ⟨t6, 0, rfl, hM6, hK6, Or.inl ⟨bI_1 h9, by omega, rfl⟩⟩)
  · refine g_aload_n C dX8_splitNumber_12 rfl ?_
    refine g_iload_n C dX8_splitNumber_13 rfl ?_
    refine g_iconst C dX8_splitNumber_14 ?_
    refine g_bipush C dX8_splitNumber_15 (by decide) ?_
    refine g_callS C (c_X8_isIn _ (v := what) (a := 0) (b := 7) h_what (by omega) (by omega)) ml_RX8_49 sm_yX8_isIn in_RX8 co_yX8_isIn hd_X8_isIn rfl ⟨by omega, by omega⟩ rfl (Nat.le_of_ble_eq_true rfl) ⟨by omega, by omega⟩ dX8_splitNumber_17 (fun v17 w17 hp17 => ?_)
    obtain ⟨rfl, hw17⟩ := hp17
    subst w17
    have J28 : ∀ y : Int, (y = 0 ∧ (0 ≤ what ∧ what ≤ 7) ∨ y = 1 ∧ ¬ (0 ≤ what ∧ what ≤ 7)) → G E X 3 28 [some (.ref m), some (iI v), some (iI what)] [iI y, .ref m] w6 0 0 := by
      intro y hy
      have hwk : 0 ≤ v ∧ v ≤ 2 := Classical.not_not.mp (bI_0 (Classical.not_not.mp h9))
      refine g_iconst C dX8_splitNumber_28 ?_
      refine g_callV C (c_X8_refuse _ hM6 (y := y) (wh := 2) (by omega) (by omega) (by omega)) (ci := 10) rfl hM6.o rfl ml_RX8_45 im_yX8_refuse se_RX8_yX8_refuse in_RX8 co_yX8_refuse hd_X8_refuse rfl ⟨by omega, by omega⟩ rfl (Nat.le_of_ble_eq_true rfl) ⟨by omega, by omega⟩ dX8_splitNumber_29 (fun v29 w29 hp29 => ?_)
      obtain ⟨t, rfl, ht, hM7, hK7⟩ := hp29
      have hy7 : (y) = 0 ∨ (y) = 1 := (by omega)
      have hK67 := hK6.tr hK7
      refine g_if_eq (tgt := 39) C dX8_splitNumber_32 (by decide) (bI_r _) (fun h32 => ?_) (fun h32 => ?_)
      · have htz : ¬ (0 < t) := bI_0 h32
        obtain ⟨p, k, hR⟩ := hZ v.toNat (by omega)
        refine g_eq (L' := [some (.ref m), some (iI ((v.toNat : Nat) : Int)), some (iI what)]) (by rw [show ((v.toNat : Nat) : Int) = v by omega]) rfl ?_
        refine g_aload_n C dX8_splitNumber_39 rfl ?_
        refine g_iload_n C dX8_splitNumber_40 rfl ?_
        refine g_iload_n C dX8_splitNumber_41 rfl ?_
        refine g_callV C (c_X8_splitOf _ hM7 (i := v.toNat) (what := what) (by omega) (by omega) hR) (ci := 10) rfl hM7.o rfl ml_RX8_271 im_yX8_splitOf se_RX8_yX8_splitOf in_RX8 co_yX8_splitOf hd_X8_splitOf rfl ⟨by omega, by omega⟩ rfl (Nat.le_of_ble_eq_true rfl) ⟨by omega, by omega⟩ dX8_splitNumber_42 (fun v42 w42 hp42 => ?_)
        obtain ⟨rfl, hw42⟩ := hp42
        subst w42
        exact g_ireturn C hQ dX8_splitNumber_45 (Nat.le_refl _) (Nat.le_refl _) (by
          first
          | exact ⟨t, _, rfl, hM7, hK67, Or.inr (Or.inr ⟨hwk, by omega, by omega, rfl⟩)⟩
          | exact ⟨t, 0, rfl, hM7, hK67, Or.inr (Or.inl ⟨hwk, by have := bI_1 h32; omega, by have := bI_1 h32; omega, rfl⟩)⟩
          | exact ⟨t6, 0, rfl, hM6, hK6, Or.inl ⟨bI_1 h9, by omega, rfl⟩⟩)
      · refine g_iconst C dX8_splitNumber_35 ?_
        refine g_goto (tgt := 45) C dX8_splitNumber_36 (by decide) ?_
        exact g_ireturn C hQ dX8_splitNumber_45 (Nat.le_refl _) (Nat.le_refl _) (by
          first
          | exact ⟨t, _, rfl, hM7, hK67, Or.inr (Or.inr ⟨hwk, by omega, by omega, rfl⟩)⟩
          | exact ⟨t, 0, rfl, hM7, hK67, Or.inr (Or.inl ⟨hwk, by have := bI_1 h32; omega, by have := bI_1 h32; omega, rfl⟩)⟩
          | exact ⟨t6, 0, rfl, hM6, hK6, Or.inl ⟨bI_1 h9, by omega, rfl⟩⟩)
    refine g_if_ne (tgt := 27) C dX8_splitNumber_20 (by decide) (bI_r _) (fun h20 => ?_) (fun h20 => ?_)
    · refine g_iconst C dX8_splitNumber_27 ?_
      exact J28 _ (by first | exact Or.inl ⟨rfl, bI_1 h20⟩ | exact Or.inr ⟨rfl, bI_0 (Classical.not_not.mp h20)⟩)
    · refine g_iconst C dX8_splitNumber_23 ?_
      refine g_goto (tgt := 28) C dX8_splitNumber_24 (by decide) ?_
      exact J28 _ (by first | exact Or.inl ⟨rfl, bI_1 h20⟩ | exact Or.inr ⟨rfl, bI_0 (Classical.not_not.mp h20)⟩)
set_option maxHeartbeats 4000000 in
set_option maxRecDepth 100000 in
theorem c_X8_split (l : Launch) {E : GE} {w : Wd} {v num : Int} (h_v : -2147483648 ≤ v ∧ v < 2147483648) (h_num : -2147483648 ≤ num ∧ num < 2147483648) {τ : Nat → Nat} {m : Nat} {A : MA} {th : Int} {ba st pb le ri : Nat → Int} {sp : Nat → Nat → Int} {ct : Nat → Int} (hM : MSx τ w m A th ba st pb le ri sp ct) (hZ : HZp sp) : Sp E l yX8_split cX8_split 3 (some .int) 4 (1) (6) [.ref m, iI v, iI num] w (fun r w' => ∃ (τ' : Nat → Nat) (A' : MA) (t : Int) (sp' : Nat → Nat → Int) (ct' : Nat → Int) (ans : Int), (∀ a, a < w.1 → τ' a = τ a) ∧ r = some (iI ans) ∧ MSx τ' w' m A' (t) (ba) (st) (pb) (le) (ri) (sp') (ct') ∧ Keep τ w w' ∧ (¬ (0 ≤ v ∧ v ≤ 2) ∧ t = 1 ∧ ans = 0 ∧ sp' = sp ∧ ct' = ct ∨ (0 ≤ v ∧ v ≤ 2) ∧ ¬ (5 ≤ num ∧ num ≤ 997) ∧ t = 2 ∧ ans = 0 ∧ sp' = sp ∧ ct' = ct ∨ (0 ≤ v ∧ v ≤ 2) ∧ (5 ≤ num ∧ num ≤ 997) ∧ t = 0 ∧ ¬ (SPb num.toNat = true) ∧ ans = -9 ∧ sp' = sp ∧ ct' = iup ct 3 (ct 3 + 1) ∨ (0 ≤ v ∧ v ≤ 2) ∧ (5 ≤ num ∧ num ≤ 997) ∧ t = 0 ∧ SPb num.toNat = true ∧ ∃ f : Nat → Int, SpR f num.toNat 0 ∧ ans = ((wit num.toNat : Nat) : Int) ∧ sp' = sup sp v.toNat f ∧ ct' = iup ct 2 (ct 2 + 1))) := by
  refine sp_intro [some (.ref m), some (iI v), some (iI num)] rfl (Nat.le_of_ble_eq_true rfl) pn_X8 ?_
  intro X C hRm hl hnm hQ
  obtain ⟨hRf, hRl, hRc, hRs⟩ := hRm
  refine g_wf (fun hwf => ?_)
  refine g_aload_n C dX8_split_0 rfl ?_
  refine g_iload_n C dX8_split_1 rfl ?_
  refine g_callS C (c_X8_isNo _ (v := v) h_v) ml_RX8_145 sm_yX8_isNo in_RX8 co_yX8_isNo hd_X8_isNo rfl ⟨by omega, by omega⟩ rfl (Nat.le_of_ble_eq_true rfl) ⟨by omega, by omega⟩ dX8_split_2 (fun v2 w2 hp2 => ?_)
  obtain ⟨rfl, hw2⟩ := hp2
  subst w2
  refine g_iconst C dX8_split_5 ?_
  refine g_callV C (c_X8_start _ hM (y := bI (¬ (0 ≤ v ∧ v ≤ 2))) (wh := 1) (bI_01 _) (by omega)) (ci := 10) rfl hM.o rfl ml_RX8_149 im_yX8_start se_RX8_yX8_start in_RX8 co_yX8_start hd_X8_start rfl ⟨by omega, by omega⟩ rfl (Nat.le_of_ble_eq_true rfl) ⟨by omega, by omega⟩ dX8_split_6 (fun v6 w6 hp6 => ?_)
  obtain ⟨t6, rfl, ht6, hM6, hK6⟩ := hp6
  have hy6 : (bI (¬ (0 ≤ v ∧ v ≤ 2))) = 0 ∨ (bI (¬ (0 ≤ v ∧ v ≤ 2))) = 1 := (bI_01 _)
  refine g_if_ne (tgt := 36) C dX8_split_9 (by decide) (bI_r _) (fun h9 => ?_) (fun h9 => ?_)
  · refine g_iconst C dX8_split_36 ?_
    exact g_ireturn C hQ dX8_split_37 (by omega) (by omega) (by
      first
      | exact ⟨τ, A, t, sp, ct, 0, fun _ _ => rfl, rfl, hM7, hK67, Or.inr (Or.inl ⟨hwk, by have := bI_1 h33; omega, by have := bI_1 h33; omega, rfl, rfl, rfl⟩)⟩
      | exact ⟨τ, A, t6, sp, ct, 0, fun _ _ => rfl, rfl, hM6, hK6, Or.inl ⟨bI_1 h9, by omega, rfl, rfl, rfl⟩⟩)
  · refine g_aload_n C dX8_split_12 rfl ?_
    refine g_iload_n C dX8_split_13 rfl ?_
    refine g_iconst C dX8_split_14 ?_
    refine g_sipush C dX8_split_15 (by decide) ?_
    refine g_callS C (c_X8_isIn _ (v := num) (a := 5) (b := 997) h_num (by omega) (by omega)) ml_RX8_49 sm_yX8_isIn in_RX8 co_yX8_isIn hd_X8_isIn rfl ⟨by omega, by omega⟩ rfl (Nat.le_of_ble_eq_true rfl) ⟨by omega, by omega⟩ dX8_split_18 (fun v18 w18 hp18 => ?_)
    obtain ⟨rfl, hw18⟩ := hp18
    subst w18
    have J29 : ∀ y : Int, (y = 0 ∧ (5 ≤ num ∧ num ≤ 997) ∨ y = 1 ∧ ¬ (5 ≤ num ∧ num ≤ 997)) → G E X 3 29 [some (.ref m), some (iI v), some (iI num)] [iI y, .ref m] w6 0 0 := by
      intro y hy
      have hwk : 0 ≤ v ∧ v ≤ 2 := Classical.not_not.mp (bI_0 (Classical.not_not.mp h9))
      refine g_iconst C dX8_split_29 ?_
      refine g_callV C (c_X8_refuse _ hM6 (y := y) (wh := 2) (by omega) (by omega) (by omega)) (ci := 10) rfl hM6.o rfl ml_RX8_45 im_yX8_refuse se_RX8_yX8_refuse in_RX8 co_yX8_refuse hd_X8_refuse rfl ⟨by omega, by omega⟩ rfl (Nat.le_of_ble_eq_true rfl) ⟨by omega, by omega⟩ dX8_split_30 (fun v30 w30 hp30 => ?_)
      obtain ⟨t, rfl, ht, hM7, hK7⟩ := hp30
      have hy7 : (y) = 0 ∨ (y) = 1 := (by omega)
      have hK67 := hK6.tr hK7
      refine g_if_eq (tgt := 38) C dX8_split_33 (by decide) (bI_r _) (fun h33 => ?_) (fun h33 => ?_)
      · have htz : ¬ (0 < t) := bI_0 h33
        have hnr : 5 ≤ num ∧ num ≤ 997 := by omega
        obtain ⟨N, rfl⟩ := Int.eq_ofNat_of_zero_le (show 0 ≤ num by omega)
        refine g_iload_n C dX8_split_38 rfl ?_
        refine g_iconst C dX8_split_39 ?_
        refine g_iremN C dX8_split_40 (by omega) (by omega) ?_
        refine g_iconst C dX8_split_41 ?_
        refine g_icmp_ne (tgt := 52) C dX8_split_42 (by decide) (by omega) (by omega) (fun h42 => ?_) (fun h42 => ?_)
        · refine g_aload_n C dX8_split_52 rfl ?_
          refine g_callV C (c_X8_cannot _ hM7) (ci := 10) rfl hM7.o rfl ml_RX8_158 im_yX8_cannot se_RX8_yX8_cannot in_RX8 co_yX8_cannot hd_X8_cannot rfl ⟨by omega, by omega⟩ rfl (Nat.le_of_ble_eq_true rfl) ⟨by omega, by omega⟩ dX8_split_53 (fun v53 w53 hp53 => ?_)
          obtain ⟨rfl, hM9, hK9⟩ := hp53
          exact g_ireturn C hQ dX8_split_56 (by omega) (by omega) ⟨τ, A, t, sp, _, -9, fun _ _ => rfl, rfl, hM9, hK67.tr hK9, Or.inr (Or.inr (Or.inl ⟨hwk, by omega, by omega, by rw [Int.toNat_natCast, SPb_iff]; rintro ⟨_, q1, q2⟩; first | omega | (rcases hz with z1 | z1; omega; exact z1.2 ⟨by omega, q2⟩), rfl, rfl, rfl⟩))⟩
        · refine g_iload_n C dX8_split_45 rfl ?_
          refine g_callS C (c_X8_isNumberPrime _ (N := N) (by omega)) ml_RX8_264 sm_yX8_isNumberPrime in_RX8 co_yX8_isNumberPrime hd_X8_isNumberPrime rfl ⟨by omega, by omega⟩ rfl (Nat.le_of_ble_eq_true rfl) ⟨by omega, by omega⟩ dX8_split_46 (fun v46 w46 hp46 => ?_)
          obtain ⟨⟨z, rfl, hz⟩, hw46⟩ := hp46
          subst w46
          refine g_if_ne (tgt := 57) C dX8_split_49 (by decide) (by omega) (fun h49 => ?_) (fun h49 => ?_)
          · have hS : SPb N = true := by
              rw [SPb_iff]
              rcases hz with z1 | z1
              · exact ⟨by omega, by omega, z1.2.2⟩
              · omega
            have hwk2 : v.toNat < 3 := by omega
            obtain ⟨q, hq, tq, eq⟩ := hM7.Z hwk2
            refine g_wf (fun hwf7 => ?_)
            refine g_aload_n C dX8_split_57 rfl ?_
            refine g_get (ci := 10) C rfl inTX8 6 (by decide) fl_RX8_35 rfl hM7.o rfl dX8_split_58 ?_
            refine g_iload_n C dX8_split_61 rfl ?_
            refine g_iload_n C dX8_split_62 rfl ?_
            refine g_callS C (c_X8_begun _ hS) ml_RX8_31 sm_yX8_begun in_RX8 co_yX8_begun hd_X8_begun rfl ⟨by omega, by omega⟩ rfl (Nat.le_of_ble_eq_true rfl) ⟨by omega, by omega⟩ dX8_split_63 (fun v63 w63 hp63 => ?_)
            obtain ⟨f, rfl, rfl, hRf⟩ := hp63
            obtain ⟨τ', hτ'⟩ : ∃ τ' : Nat → Nat, τ' = fun a => if a = w30.1 then 10 + v.toNat else τ a := ⟨_, rfl⟩
            have hτ1 : ∀ a, a < w30.1 → τ' a = τ a := fun a ha => by rw [hτ']; exact if_neg (by omega)
            have hτ2 : τ' w30.1 = 10 + v.toNat := by rw [hτ']; exact if_pos rfl
            have hM8 := (hM7.tag hwf7 hτ1).ex (Ex.push hwf7 (true, eI 6 f))
            have hM81 := hM8.setZ hwk2 hτ2 wpush_s
            refine g_aastoreI C v.toNat hM8.z wpush_s (by omega) (by omega) dX8_split_66 ?_
            refine g_aload_n C dX8_split_67 rfl ?_
            refine g_iconst C dX8_split_68 ?_
            refine g_iload_n C dX8_split_69 rfl ?_
            refine g_callS C (c_X8_witness _ hS) ml_RX8_254 sm_yX8_witness in_RX8 co_yX8_witness hd_X8_witness rfl ⟨by omega, by omega⟩ rfl (Nat.le_of_ble_eq_true rfl) ⟨by omega, by omega⟩ dX8_split_70 (fun v70 w70 hp70 => ?_)
            obtain ⟨rfl, hw70⟩ := hp70
            subst w70
            refine g_callV C (c_X8_done _ hM81 (kd := 2) (to := ((wit N : Nat) : Int)) (by omega)) (ci := 10) rfl hM81.o rfl ml_RX8_155 im_yX8_done se_RX8_yX8_done in_RX8 co_yX8_done hd_X8_done rfl ⟨by omega, by omega⟩ rfl (Nat.le_of_ble_eq_true rfl) ⟨by omega, by omega⟩ dX8_split_73 (fun v73 w73 hp73 => ?_)
            obtain ⟨rfl, hM9, hK9⟩ := hp73
            exact g_ireturn C hQ dX8_split_76 (by omega) (by omega) ⟨τ', _, t, _, _, _, fun a ha => hτ1 a (by have := hK67.1; omega), rfl, hM9, (hK67.tr ((Keep.ex (Ex.push hwf7 (true, eI 6 f))).tr (Keep.set _ (by have := hM7.tg; omega)))).trT hK9 hwf (fun a ha => hτ1 a (by have := hK67.1; omega)), Or.inr (Or.inr (Or.inr ⟨hwk, by omega, by omega, by rw [Int.toNat_natCast]; exact hS, f, by rw [Int.toNat_natCast]; exact hRf, by rw [Int.toNat_natCast], rfl, rfl⟩))⟩
          · refine g_aload_n C dX8_split_52 rfl ?_
            refine g_callV C (c_X8_cannot _ hM7) (ci := 10) rfl hM7.o rfl ml_RX8_158 im_yX8_cannot se_RX8_yX8_cannot in_RX8 co_yX8_cannot hd_X8_cannot rfl ⟨by omega, by omega⟩ rfl (Nat.le_of_ble_eq_true rfl) ⟨by omega, by omega⟩ dX8_split_53 (fun v53 w53 hp53 => ?_)
            obtain ⟨rfl, hM9, hK9⟩ := hp53
            exact g_ireturn C hQ dX8_split_56 (by omega) (by omega) ⟨τ, A, t, sp, _, -9, fun _ _ => rfl, rfl, hM9, hK67.tr hK9, Or.inr (Or.inr (Or.inl ⟨hwk, by omega, by omega, by rw [Int.toNat_natCast, SPb_iff]; rintro ⟨_, q1, q2⟩; first | omega | (rcases hz with z1 | z1; omega; exact z1.2 ⟨by omega, q2⟩), rfl, rfl, rfl⟩))⟩
      · refine g_iconst C dX8_split_36 ?_
        exact g_ireturn C hQ dX8_split_37 (by omega) (by omega) (by
          first
          | exact ⟨τ, A, t, sp, ct, 0, fun _ _ => rfl, rfl, hM7, hK67, Or.inr (Or.inl ⟨hwk, by have := bI_1 h33; omega, by have := bI_1 h33; omega, rfl, rfl, rfl⟩)⟩
          | exact ⟨τ, A, t6, sp, ct, 0, fun _ _ => rfl, rfl, hM6, hK6, Or.inl ⟨bI_1 h9, by omega, rfl, rfl, rfl⟩⟩)
    refine g_if_ne (tgt := 28) C dX8_split_21 (by decide) (bI_r _) (fun h21 => ?_) (fun h21 => ?_)
    · refine g_iconst C dX8_split_28 ?_
      exact J29 _ (by first | exact Or.inl ⟨rfl, bI_1 h21⟩ | exact Or.inr ⟨rfl, bI_0 (Classical.not_not.mp h21)⟩)
    · refine g_iconst C dX8_split_24 ?_
      refine g_goto (tgt := 29) C dX8_split_25 (by decide) ?_
      exact J29 _ (by first | exact Or.inl ⟨rfl, bI_1 h21⟩ | exact Or.inr ⟨rfl, bI_0 (Classical.not_not.mp h21)⟩)
set_option maxHeartbeats 4000000 in
set_option maxRecDepth 100000 in
theorem c_X8_symbol (l : Launch) {E : GE} {w : Wd} {v num : Int} (h_v : -2147483648 ≤ v ∧ v < 2147483648) (h_num : -2147483648 ≤ num ∧ num < 2147483648) {τ : Nat → Nat} {m : Nat} {A : MA} {th : Int} {ba st pb le ri : Nat → Int} {sp : Nat → Nat → Int} {ct : Nat → Int} (hM : MSx τ w m A th ba st pb le ri sp ct) (hZ : HZp sp) : Sp E l yX8_symbol cX8_symbol 5 (some .int) 2 (0) (0) [.ref m, iI v, iI num] w (fun r w' => ∃ (t : Int) (ans : Int), r = some (iI ans) ∧ MSx τ w' m A (t) (ba) (st) (pb) (le) (ri) (sp) (ct) ∧ Keep τ w w' ∧ (¬ (0 ≤ v ∧ v ≤ 2) ∧ t = 1 ∧ ans = 0 ∨ (0 ≤ v ∧ v ≤ 2) ∧ ¬ ((-999) ≤ num ∧ num ≤ 999) ∧ t = 2 ∧ ans = 0 ∨ (0 ≤ v ∧ v ≤ 2) ∧ ((-999) ≤ num ∧ num ≤ 999) ∧ t = 0 ∧ ∃ p k, SpR (sp v.toNat) p k ∧ ans = if pmN (num % (p : Int)).toNat p ((p - 1) / 2) = p - 1 then -1 else ((pmN (num % (p : Int)).toNat p ((p - 1) / 2) : Nat) : Int))) := by
  refine sp_intro [some (.ref m), some (iI v), some (iI num), none, none] rfl (Nat.le_of_ble_eq_true rfl) pn_X8 ?_
  intro X C hRm hl hnm hQ
  obtain ⟨hRf, hRl, hRc, hRs⟩ := hRm
  refine g_wf (fun hwf => ?_)
  refine g_aload_n C dX8_symbol_0 rfl ?_
  refine g_iload_n C dX8_symbol_1 rfl ?_
  refine g_callS C (c_X8_isNo _ (v := v) h_v) ml_RX8_145 sm_yX8_isNo in_RX8 co_yX8_isNo hd_X8_isNo rfl ⟨by omega, by omega⟩ rfl (Nat.le_of_ble_eq_true rfl) ⟨by omega, by omega⟩ dX8_symbol_2 (fun v2 w2 hp2 => ?_)
  obtain ⟨rfl, hw2⟩ := hp2
  subst w2
  refine g_iconst C dX8_symbol_5 ?_
  refine g_callV C (c_X8_start _ hM (y := bI (¬ (0 ≤ v ∧ v ≤ 2))) (wh := 1) (bI_01 _) (by omega)) (ci := 10) rfl hM.o rfl ml_RX8_149 im_yX8_start se_RX8_yX8_start in_RX8 co_yX8_start hd_X8_start rfl ⟨by omega, by omega⟩ rfl (Nat.le_of_ble_eq_true rfl) ⟨by omega, by omega⟩ dX8_symbol_6 (fun v6 w6 hp6 => ?_)
  obtain ⟨t6, rfl, ht6, hM6, hK6⟩ := hp6
  have hy6 : (bI (¬ (0 ≤ v ∧ v ≤ 2))) = 0 ∨ (bI (¬ (0 ≤ v ∧ v ≤ 2))) = 1 := (bI_01 _)
  refine g_if_ne (tgt := 38) C dX8_symbol_9 (by decide) (bI_r _) (fun h9 => ?_) (fun h9 => ?_)
  · refine g_iconst C dX8_symbol_38 ?_
    exact g_ireturn C hQ dX8_symbol_39 (Nat.le_refl _) (Nat.le_refl _) (by
      first
      | exact ⟨t, 0, rfl, hM7, hK67, Or.inr (Or.inl ⟨hwk, by have := bI_1 h35; omega, by have := bI_1 h35; omega, rfl⟩)⟩
      | exact ⟨t6, 0, rfl, hM6, hK6, Or.inl ⟨bI_1 h9, by omega, rfl⟩⟩)
  · refine g_aload_n C dX8_symbol_12 rfl ?_
    refine g_iload_n C dX8_symbol_13 rfl ?_
    refine g_sipush C dX8_symbol_14 (by decide) ?_
    refine g_sipush C dX8_symbol_17 (by decide) ?_
    refine g_callS C (c_X8_isIn _ (v := num) (a := (-999)) (b := 999) h_num (by omega) (by omega)) ml_RX8_49 sm_yX8_isIn in_RX8 co_yX8_isIn hd_X8_isIn rfl ⟨by omega, by omega⟩ rfl (Nat.le_of_ble_eq_true rfl) ⟨by omega, by omega⟩ dX8_symbol_20 (fun v20 w20 hp20 => ?_)
    obtain ⟨rfl, hw20⟩ := hp20
    subst w20
    have J31 : ∀ y : Int, (y = 0 ∧ ((-999) ≤ num ∧ num ≤ 999) ∨ y = 1 ∧ ¬ ((-999) ≤ num ∧ num ≤ 999)) → G E X 5 31 [some (.ref m), some (iI v), some (iI num), none, none] [iI y, .ref m] w6 0 0 := by
      intro y hy
      have hwk : 0 ≤ v ∧ v ≤ 2 := Classical.not_not.mp (bI_0 (Classical.not_not.mp h9))
      refine g_iconst C dX8_symbol_31 ?_
      refine g_callV C (c_X8_refuse _ hM6 (y := y) (wh := 2) (by omega) (by omega) (by omega)) (ci := 10) rfl hM6.o rfl ml_RX8_45 im_yX8_refuse se_RX8_yX8_refuse in_RX8 co_yX8_refuse hd_X8_refuse rfl ⟨by omega, by omega⟩ rfl (Nat.le_of_ble_eq_true rfl) ⟨by omega, by omega⟩ dX8_symbol_32 (fun v32 w32 hp32 => ?_)
      obtain ⟨t, rfl, ht, hM7, hK7⟩ := hp32
      have hy7 : (y) = 0 ∨ (y) = 1 := (by omega)
      have hK67 := hK6.tr hK7
      refine g_if_eq (tgt := 40) C dX8_symbol_35 (by decide) (bI_r _) (fun h35 => ?_) (fun h35 => ?_)
      · have htz : ¬ (0 < t) := bI_0 h35
        have hnr : -999 ≤ num ∧ num ≤ 999 := by omega
        obtain ⟨q, hq, tq, eq⟩ := hM7.Z (i := v.toNat) (by omega)
        obtain ⟨p, k, hR⟩ := hZ v.toNat (by omega)
        have hpp := hR.1.p
        have e0 := hR.2.1
        have hnm : num % (p : Int) = (((num % (p : Int)).toNat % p : Nat) : Int) := by
          have a1 : 0 ≤ num % (p : Int) := Int.emod_nonneg _ (by omega)
          have a2 : num % (p : Int) < p := Int.emod_lt_of_pos _ (by omega)
          rw [Nat.mod_eq_of_lt (by omega)]; omega
        refine g_aload_n C dX8_symbol_40 rfl ?_
        refine g_get (ci := 10) C rfl inTX8 6 (by decide) fl_RX8_35 rfl hM7.o rfl dX8_symbol_41 ?_
        refine g_iload_n C dX8_symbol_44 rfl ?_
        refine g_aaloadN (v.toNat) C rfl rfl hM7.z (by omega) (by omega) hq dX8_symbol_45 ?_
        refine g_iconst C dX8_symbol_46 ?_
        refine g_ialoadN (0) C eq (by omega) (by omega) dX8_symbol_47 ?_
        rw [e0]
        refine g_istore_n C dX8_symbol_48 (by decide) rfl ?_
        refine g_iload_n C dX8_symbol_49 rfl ?_
        refine g_iload_n C dX8_symbol_50 rfl ?_
        refine g_iconst C dX8_symbol_51 ?_
        refine g_isub C dX8_symbol_52 ?_
        refine g_iconst C dX8_symbol_53 ?_
        refine g_idivN C dX8_symbol_54 (by omega) (by omega) ?_
        rw [show ((p : Int) - 1) / 2 = (((p - 1) / 2 : Nat) : Int) by omega]
        refine g_iload_n C dX8_symbol_55 rfl ?_
        refine g_callS C (c_X8_powered _ (x := num) (a := (num % (p : Int)).toNat) (p := p) (K := (p - 1) / 2) (by omega) (by omega) hnm (by omega)) ml_RX8_250 sm_yX8_powered in_RX8 co_yX8_powered hd_X8_powered rfl ⟨by omega, by omega⟩ rfl (Nat.le_of_ble_eq_true rfl) ⟨by omega, by omega⟩ dX8_symbol_56 (fun v56 w56 hp56 => ?_)
        obtain ⟨rfl, hw56⟩ := hp56
        subst w56
        have hlt := pmN_lt (a := (num % (p : Int)).toNat) (p := p) (by omega) ((p - 1) / 2)
        refine g_istore C dX8_symbol_59 (by decide) rfl ?_
        refine g_iload C dX8_symbol_61 rfl ?_
        refine g_iload_n C dX8_symbol_63 rfl ?_
        refine g_iconst C dX8_symbol_64 ?_
        refine g_isub C dX8_symbol_65 ?_
        refine g_icmp_ne (tgt := 73) C dX8_symbol_66 (by decide) (by omega) (by omega) (fun h66 => ?_) (fun h66 => ?_)
        · refine g_iload C dX8_symbol_73 rfl ?_
          exact g_ireturn C hQ dX8_symbol_75 (Nat.le_refl _) (Nat.le_refl _) ⟨t, _, rfl, hM7, hK67, Or.inr (Or.inr ⟨hwk, by omega, by omega, p, k, hR, by first | rw [if_pos (by omega)] | rw [if_neg (by omega)]⟩)⟩
        · refine g_iconst C dX8_symbol_69 ?_
          refine g_goto (tgt := 75) C dX8_symbol_70 (by decide) ?_
          exact g_ireturn C hQ dX8_symbol_75 (Nat.le_refl _) (Nat.le_refl _) ⟨t, _, rfl, hM7, hK67, Or.inr (Or.inr ⟨hwk, by omega, by omega, p, k, hR, by first | rw [if_pos (by omega)] | rw [if_neg (by omega)]⟩)⟩
      · refine g_iconst C dX8_symbol_38 ?_
        exact g_ireturn C hQ dX8_symbol_39 (Nat.le_refl _) (Nat.le_refl _) (by
          first
          | exact ⟨t, 0, rfl, hM7, hK67, Or.inr (Or.inl ⟨hwk, by have := bI_1 h35; omega, by have := bI_1 h35; omega, rfl⟩)⟩
          | exact ⟨t6, 0, rfl, hM6, hK6, Or.inl ⟨bI_1 h9, by omega, rfl⟩⟩)
    refine g_if_ne (tgt := 30) C dX8_symbol_23 (by decide) (bI_r _) (fun h23 => ?_) (fun h23 => ?_)
    · refine g_iconst C dX8_symbol_30 ?_
      exact J31 _ (by first | exact Or.inl ⟨rfl, bI_1 h23⟩ | exact Or.inr ⟨rfl, bI_0 (Classical.not_not.mp h23)⟩)
    · refine g_iconst C dX8_symbol_26 ?_
      refine g_goto (tgt := 31) C dX8_symbol_27 (by decide) ?_
      exact J31 _ (by first | exact Or.inl ⟨rfl, bI_1 h23⟩ | exact Or.inr ⟨rfl, bI_0 (Classical.not_not.mp h23)⟩)
set_option maxHeartbeats 4000000 in
set_option maxRecDepth 100000 in
theorem c_X8_inverse (l : Launch) {E : GE} {w : Wd} {v num : Int} (h_v : -2147483648 ≤ v ∧ v < 2147483648) (h_num : -2147483648 ≤ num ∧ num < 2147483648) {τ : Nat → Nat} {m : Nat} {A : MA} {th : Int} {ba st pb le ri : Nat → Int} {sp : Nat → Nat → Int} {ct : Nat → Int} (hM : MSx τ w m A th ba st pb le ri sp ct) (hZ : HZp sp) : Sp E l yX8_inverse cX8_inverse 5 (some .int) 2 (0) (0) [.ref m, iI v, iI num] w (fun r w' => ∃ (t : Int) (ans : Int), r = some (iI ans) ∧ MSx τ w' m A (t) (ba) (st) (pb) (le) (ri) (sp) (ct) ∧ Keep τ w w' ∧ (¬ (0 ≤ v ∧ v ≤ 2) ∧ t = 1 ∧ ans = 0 ∨ (0 ≤ v ∧ v ≤ 2) ∧ ¬ ((-999) ≤ num ∧ num ≤ 999) ∧ t = 2 ∧ ans = 0 ∨ (0 ≤ v ∧ v ≤ 2) ∧ ((-999) ≤ num ∧ num ≤ 999) ∧ t = 0 ∧ ∃ p k, SpR (sp v.toNat) p k ∧ ((∃ j : Nat, 1 ≤ j ∧ j < p ∧ num % (p : Int) * (j : Int) % (p : Int) = 1 ∧ (∀ i : Nat, 1 ≤ i → i < j → num % (p : Int) * (i : Int) % (p : Int) ≠ 1) ∧ ans = j) ∨ (∀ i : Nat, 1 ≤ i → i < p → num % (p : Int) * (i : Int) % (p : Int) ≠ 1) ∧ ans = 0))) := by
  refine sp_intro [some (.ref m), some (iI v), some (iI num), none, none] rfl (Nat.le_of_ble_eq_true rfl) pn_X8 ?_
  intro X C hRm hl hnm hQ
  obtain ⟨hRf, hRl, hRc, hRs⟩ := hRm
  refine g_wf (fun hwf => ?_)
  refine g_aload_n C dX8_inverse_0 rfl ?_
  refine g_iload_n C dX8_inverse_1 rfl ?_
  refine g_callS C (c_X8_isNo _ (v := v) h_v) ml_RX8_145 sm_yX8_isNo in_RX8 co_yX8_isNo hd_X8_isNo rfl ⟨by omega, by omega⟩ rfl (Nat.le_of_ble_eq_true rfl) ⟨by omega, by omega⟩ dX8_inverse_2 (fun v2 w2 hp2 => ?_)
  obtain ⟨rfl, hw2⟩ := hp2
  subst w2
  refine g_iconst C dX8_inverse_5 ?_
  refine g_callV C (c_X8_start _ hM (y := bI (¬ (0 ≤ v ∧ v ≤ 2))) (wh := 1) (bI_01 _) (by omega)) (ci := 10) rfl hM.o rfl ml_RX8_149 im_yX8_start se_RX8_yX8_start in_RX8 co_yX8_start hd_X8_start rfl ⟨by omega, by omega⟩ rfl (Nat.le_of_ble_eq_true rfl) ⟨by omega, by omega⟩ dX8_inverse_6 (fun v6 w6 hp6 => ?_)
  obtain ⟨t6, rfl, ht6, hM6, hK6⟩ := hp6
  have hy6 : (bI (¬ (0 ≤ v ∧ v ≤ 2))) = 0 ∨ (bI (¬ (0 ≤ v ∧ v ≤ 2))) = 1 := (bI_01 _)
  refine g_if_ne (tgt := 38) C dX8_inverse_9 (by decide) (bI_r _) (fun h9 => ?_) (fun h9 => ?_)
  · refine g_iconst C dX8_inverse_38 ?_
    exact g_ireturn C hQ dX8_inverse_39 (Nat.le_refl _) (Nat.le_refl _) (by
      first
      | exact ⟨t, 0, rfl, hM7, hK67, Or.inr (Or.inl ⟨hwk, by have := bI_1 h35; omega, by have := bI_1 h35; omega, rfl⟩)⟩
      | exact ⟨t6, 0, rfl, hM6, hK6, Or.inl ⟨bI_1 h9, by omega, rfl⟩⟩)
  · refine g_aload_n C dX8_inverse_12 rfl ?_
    refine g_iload_n C dX8_inverse_13 rfl ?_
    refine g_sipush C dX8_inverse_14 (by decide) ?_
    refine g_sipush C dX8_inverse_17 (by decide) ?_
    refine g_callS C (c_X8_isIn _ (v := num) (a := (-999)) (b := 999) h_num (by omega) (by omega)) ml_RX8_49 sm_yX8_isIn in_RX8 co_yX8_isIn hd_X8_isIn rfl ⟨by omega, by omega⟩ rfl (Nat.le_of_ble_eq_true rfl) ⟨by omega, by omega⟩ dX8_inverse_20 (fun v20 w20 hp20 => ?_)
    obtain ⟨rfl, hw20⟩ := hp20
    subst w20
    have J31 : ∀ y : Int, (y = 0 ∧ ((-999) ≤ num ∧ num ≤ 999) ∨ y = 1 ∧ ¬ ((-999) ≤ num ∧ num ≤ 999)) → G E X 5 31 [some (.ref m), some (iI v), some (iI num), none, none] [iI y, .ref m] w6 0 0 := by
      intro y hy
      have hwk : 0 ≤ v ∧ v ≤ 2 := Classical.not_not.mp (bI_0 (Classical.not_not.mp h9))
      refine g_iconst C dX8_inverse_31 ?_
      refine g_callV C (c_X8_refuse _ hM6 (y := y) (wh := 2) (by omega) (by omega) (by omega)) (ci := 10) rfl hM6.o rfl ml_RX8_45 im_yX8_refuse se_RX8_yX8_refuse in_RX8 co_yX8_refuse hd_X8_refuse rfl ⟨by omega, by omega⟩ rfl (Nat.le_of_ble_eq_true rfl) ⟨by omega, by omega⟩ dX8_inverse_32 (fun v32 w32 hp32 => ?_)
      obtain ⟨t, rfl, ht, hM7, hK7⟩ := hp32
      have hy7 : (y) = 0 ∨ (y) = 1 := (by omega)
      have hK67 := hK6.tr hK7
      refine g_if_eq (tgt := 40) C dX8_inverse_35 (by decide) (bI_r _) (fun h35 => ?_) (fun h35 => ?_)
      · have htz : ¬ (0 < t) := bI_0 h35
        have hnr : -999 ≤ num ∧ num ≤ 999 := by omega
        obtain ⟨q, hq, tq, eq⟩ := hM7.Z (i := v.toNat) (by omega)
        obtain ⟨p, k, hR⟩ := hZ v.toNat (by omega)
        have hpp := hR.1.p
        have e0 := hR.2.1
        have hnm : num % (p : Int) = (((num % (p : Int)).toNat % p : Nat) : Int) := by
          have a1 : 0 ≤ num % (p : Int) := Int.emod_nonneg _ (by omega)
          have a2 : num % (p : Int) < p := Int.emod_lt_of_pos _ (by omega)
          rw [Nat.mod_eq_of_lt (by omega)]; omega
        have t1 : -(p : Int) < num.tmod p := Int.lt_tmod_of_pos num (by omega)
        have t2 : num.tmod p < p := Int.tmod_lt_of_pos num (by omega)
        have a1 : 0 ≤ num % (p : Int) := Int.emod_nonneg _ (by omega)
        have a2 : num % (p : Int) < p := Int.emod_lt_of_pos _ (by omega)
        refine g_aload_n C dX8_inverse_40 rfl ?_
        refine g_get (ci := 10) C rfl inTX8 6 (by decide) fl_RX8_35 rfl hM7.o rfl dX8_inverse_41 ?_
        refine g_iload_n C dX8_inverse_44 rfl ?_
        refine g_aaloadN (v.toNat) C rfl rfl hM7.z (by omega) (by omega) hq dX8_inverse_45 ?_
        refine g_iconst C dX8_inverse_46 ?_
        refine g_ialoadN (0) C eq (by omega) (by omega) dX8_inverse_47 ?_
        rw [e0]
        refine g_istore_n C dX8_inverse_48 (by decide) rfl ?_
        refine g_iconst C dX8_inverse_49 ?_
        refine g_istore C dX8_inverse_50 (by decide) rfl ?_
        refine g_loop (σ := Nat) (fun j => 1 ≤ j ∧ j ≤ p ∧ ∀ i : Nat, 1 ≤ i → i < j → num % (p : Int) * (i : Int) % (p : Int) ≠ 1) (fun j => G E X 5 52 [some (.ref m), some (iI v), some (iI num), some (iI (p : Int)), some (iI (j : Int))] [] w32 0 0) (fun j => p - j) ?_ 1 ⟨by omega, by omega, fun i h1 h2 => by omega⟩
        rintro j ⟨hj1, hjp, hjn⟩ ih
        have m1 : 0 ≤ num % (p : Int) * (j : Int) := Int.mul_nonneg a1 (by omega)
        have m2 : num % (p : Int) * (j : Int) ≤ 997 * 997 := Int.mul_le_mul (by omega) (by omega) (by omega) (by omega)
        have m3 : 0 ≤ num % (p : Int) * (j : Int) % (p : Int) := Int.emod_nonneg _ (by omega)
        have m4 : num % (p : Int) * (j : Int) % (p : Int) < p := Int.emod_lt_of_pos _ (by omega)
        refine g_iload C dX8_inverse_52 rfl ?_
        refine g_iload_n C dX8_inverse_54 rfl ?_
        refine g_icmp_ge (tgt := 83) C dX8_inverse_55 (by decide) (by omega) (by omega) (fun h55 => ?_) (fun h55 => ?_)
        · refine g_iconst C dX8_inverse_83 ?_
          exact g_ireturn C hQ dX8_inverse_84 (Nat.le_refl _) (Nat.le_refl _) ⟨t, 0, rfl, hM7, hK67, Or.inr (Or.inr ⟨hwk, by omega, by omega, p, k, hR, Or.inr ⟨fun i h1 h2 => hjn i h1 (by omega), rfl⟩⟩)⟩
        · refine g_iload_n C dX8_inverse_58 rfl ?_
          refine g_iload_n C dX8_inverse_59 rfl ?_
          refine g_irem C dX8_inverse_60 (by omega) (by omega) (by omega) ?_
          refine g_iload_n C dX8_inverse_61 rfl ?_
          refine g_iadd C dX8_inverse_62 ?_
          refine g_iload_n C dX8_inverse_63 rfl ?_
          refine g_iremN C dX8_inverse_64 (by omega) (by omega) ?_
          rw [tm_mod (by omega)]
          refine g_iload C dX8_inverse_65 rfl ?_
          refine g_imul C dX8_inverse_67 ?_
          refine g_iload_n C dX8_inverse_68 rfl ?_
          refine g_iremN C dX8_inverse_69 (by omega) (by omega) ?_
          refine g_iconst C dX8_inverse_70 ?_
          refine g_icmp_ne (tgt := 77) C dX8_inverse_71 (by decide) (by omega) (by omega) (fun h71 => ?_) (fun h71 => ?_)
          · refine g_iinc C dX8_inverse_77 rfl (by decide) rfl ?_
            refine g_goto (tgt := 52) C dX8_inverse_80 (by decide) ?_
            exact ih (j + 1) ⟨by omega, by omega, fun i h1 h2 => by
              rcases Nat.lt_or_ge i j with q | q
              · exact hjn i h1 q
              · rw [show i = j by omega]; exact h71⟩ (by omega)
          · refine g_iload C dX8_inverse_74 rfl ?_
            exact g_ireturn C hQ dX8_inverse_76 (Nat.le_refl _) (Nat.le_refl _) ⟨t, _, rfl, hM7, hK67, Or.inr (Or.inr ⟨hwk, by omega, by omega, p, k, hR, Or.inl ⟨j, hj1, by omega, Classical.not_not.mp h71, hjn, rfl⟩⟩)⟩
      · refine g_iconst C dX8_inverse_38 ?_
        exact g_ireturn C hQ dX8_inverse_39 (Nat.le_refl _) (Nat.le_refl _) (by
          first
          | exact ⟨t, 0, rfl, hM7, hK67, Or.inr (Or.inl ⟨hwk, by have := bI_1 h35; omega, by have := bI_1 h35; omega, rfl⟩)⟩
          | exact ⟨t6, 0, rfl, hM6, hK6, Or.inl ⟨bI_1 h9, by omega, rfl⟩⟩)
    refine g_if_ne (tgt := 30) C dX8_inverse_23 (by decide) (bI_r _) (fun h23 => ?_) (fun h23 => ?_)
    · refine g_iconst C dX8_inverse_30 ?_
      exact J31 _ (by first | exact Or.inl ⟨rfl, bI_1 h23⟩ | exact Or.inr ⟨rfl, bI_0 (Classical.not_not.mp h23)⟩)
    · refine g_iconst C dX8_inverse_26 ?_
      refine g_goto (tgt := 31) C dX8_inverse_27 (by decide) ?_
      exact J31 _ (by first | exact Or.inl ⟨rfl, bI_1 h23⟩ | exact Or.inr ⟨rfl, bI_0 (Classical.not_not.mp h23)⟩)
set_option maxHeartbeats 4000000 in
set_option maxRecDepth 100000 in
theorem c_X8_isPrime (l : Launch) {E : GE} {w : Wd} {v : Int} (h_v : -2147483648 ≤ v ∧ v < 2147483648) {τ : Nat → Nat} {m : Nat} {A : MA} {th : Int} {ba st pb le ri : Nat → Int} {sp : Nat → Nat → Int} {ct : Nat → Int} (hM : MSx τ w m A th ba st pb le ri sp ct) : Sp E l yX8_isPrime cX8_isPrime 2 (some .boolean) 2 (0) (0) [.ref m, iI v] w (fun r w' => ∃ (t : Int) (ans : Int), r = some (iI ans) ∧ MSx τ w' m A (t) (ba) (st) (pb) (le) (ri) (sp) (ct) ∧ Keep τ w w' ∧ (¬ (0 ≤ v ∧ v ≤ 999) ∧ t = 1 ∧ ans = 0 ∨ (0 ≤ v ∧ v ≤ 999) ∧ t = 0 ∧ (ans = 1 ∧ (1 < v.toNat ∧ prB v.toNat = true) ∨ ans = 0 ∧ ¬ (1 < v.toNat ∧ prB v.toNat = true)))) := by
  refine sp_intro [some (.ref m), some (iI v)] rfl (Nat.le_of_ble_eq_true rfl) pn_X8 ?_
  intro X C hRm hl hnm hQ
  obtain ⟨hRf, hRl, hRc, hRs⟩ := hRm
  refine g_wf (fun hwf => ?_)
  refine g_aload_n C dX8_isPrime_0 rfl ?_
  refine g_iload_n C dX8_isPrime_1 rfl ?_
  refine g_iconst C dX8_isPrime_2 ?_
  refine g_sipush C dX8_isPrime_3 (by decide) ?_
  refine g_callS C (c_X8_isIn _ (v := v) (a := 0) (b := 999) h_v (by omega) (by omega)) ml_RX8_49 sm_yX8_isIn in_RX8 co_yX8_isIn hd_X8_isIn rfl ⟨by omega, by omega⟩ rfl (Nat.le_of_ble_eq_true rfl) ⟨by omega, by omega⟩ dX8_isPrime_6 (fun v6 w6 hp6 => ?_)
  obtain ⟨rfl, hw6⟩ := hp6
  subst w6
  have J17 : ∀ y : Int, (y = 0 ∧ (0 ≤ v ∧ v ≤ 999) ∨ y = 1 ∧ ¬ (0 ≤ v ∧ v ≤ 999)) → G E X 2 17 [some (.ref m), some (iI v)] [iI y, .ref m] w 0 0 := by
    intro y hy
    refine g_iconst C dX8_isPrime_17 ?_
    refine g_callV C (c_X8_start _ hM (y := y) (wh := 1) (by omega) (by omega)) (ci := 10) rfl hM.o rfl ml_RX8_149 im_yX8_start se_RX8_yX8_start in_RX8 co_yX8_start hd_X8_start rfl ⟨by omega, by omega⟩ rfl (Nat.le_of_ble_eq_true rfl) ⟨by omega, by omega⟩ dX8_isPrime_18 (fun v18 w18 hp18 => ?_)
    obtain ⟨t6, rfl, ht6, hM6, hK6⟩ := hp18
    have hy6 : (y) = 0 ∨ (y) = 1 := (by omega)
    refine g_if_ne (tgt := 35) C dX8_isPrime_21 (by decide) (by omega) (fun h21 => ?_) (fun h21 => ?_)
    · refine g_iconst C dX8_isPrime_35 ?_
      exact g_zreturn C hQ dX8_isPrime_36 (nar01 (by omega)) (Nat.le_refl _) (Nat.le_refl _) (by
        first
        | exact ⟨t6, _, rfl, hM6, hK6, Or.inr ⟨hv, by omega, by rw [Int.toNat_natCast]; rcases hz with q | q; exact Or.inl ⟨rfl, q.2⟩; omega⟩⟩
        | exact ⟨t6, _, rfl, hM6, hK6, Or.inr ⟨hv, by omega, by rw [Int.toNat_natCast]; rcases hz with q | q; omega; exact Or.inr ⟨rfl, q.2⟩⟩⟩
        | exact ⟨t6, _, rfl, hM6, hK6, Or.inl ⟨by omega, by omega, rfl⟩⟩)
    · have hv : 0 ≤ v ∧ v ≤ 999 := by omega
      obtain ⟨N, rfl⟩ := Int.eq_ofNat_of_zero_le hv.1
      refine g_iload_n C dX8_isPrime_24 rfl ?_
      refine g_callS C (c_X8_isNumberPrime _ (N := N) (by omega)) ml_RX8_264 sm_yX8_isNumberPrime in_RX8 co_yX8_isNumberPrime hd_X8_isNumberPrime rfl ⟨by omega, by omega⟩ rfl (Nat.le_of_ble_eq_true rfl) ⟨by omega, by omega⟩ dX8_isPrime_25 (fun v25 w25 hp25 => ?_)
      obtain ⟨⟨z, rfl, hz⟩, hw25⟩ := hp25
      subst w25
      refine g_if_eq (tgt := 35) C dX8_isPrime_28 (by decide) (by omega) (fun h28 => ?_) (fun h28 => ?_)
      · refine g_iconst C dX8_isPrime_35 ?_
        exact g_zreturn C hQ dX8_isPrime_36 (nar01 (by omega)) (Nat.le_refl _) (Nat.le_refl _) (by
          first
          | exact ⟨t6, _, rfl, hM6, hK6, Or.inr ⟨hv, by omega, by rw [Int.toNat_natCast]; rcases hz with q | q; exact Or.inl ⟨rfl, q.2⟩; omega⟩⟩
          | exact ⟨t6, _, rfl, hM6, hK6, Or.inr ⟨hv, by omega, by rw [Int.toNat_natCast]; rcases hz with q | q; omega; exact Or.inr ⟨rfl, q.2⟩⟩⟩
          | exact ⟨t6, _, rfl, hM6, hK6, Or.inl ⟨by omega, by omega, rfl⟩⟩)
      · refine g_iconst C dX8_isPrime_31 ?_
        refine g_goto (tgt := 36) C dX8_isPrime_32 (by decide) ?_
        exact g_zreturn C hQ dX8_isPrime_36 (nar01 (by omega)) (Nat.le_refl _) (Nat.le_refl _) (by
          first
          | exact ⟨t6, _, rfl, hM6, hK6, Or.inr ⟨hv, by omega, by rw [Int.toNat_natCast]; rcases hz with q | q; exact Or.inl ⟨rfl, q.2⟩; omega⟩⟩
          | exact ⟨t6, _, rfl, hM6, hK6, Or.inr ⟨hv, by omega, by rw [Int.toNat_natCast]; rcases hz with q | q; omega; exact Or.inr ⟨rfl, q.2⟩⟩⟩
          | exact ⟨t6, _, rfl, hM6, hK6, Or.inl ⟨by omega, by omega, rfl⟩⟩)
  refine g_if_ne (tgt := 16) C dX8_isPrime_9 (by decide) (bI_r _) (fun h9 => ?_) (fun h9 => ?_)
  · refine g_iconst C dX8_isPrime_16 ?_
    exact J17 _ (by first | exact Or.inl ⟨rfl, bI_1 h9⟩ | exact Or.inr ⟨rfl, bI_0 (Classical.not_not.mp h9)⟩)
  · refine g_iconst C dX8_isPrime_12 ?_
    refine g_goto (tgt := 17) C dX8_isPrime_13 (by decide) ?_
    exact J17 _ (by first | exact Or.inl ⟨rfl, bI_1 h9⟩ | exact Or.inr ⟨rfl, bI_0 (Classical.not_not.mp h9)⟩)
set_option maxHeartbeats 4000000 in
set_option maxRecDepth 100000 in
theorem c_X8_period (l : Launch) {E : GE} {w : Wd} {v : Int} (h_v : -2147483648 ≤ v ∧ v < 2147483648) {τ : Nat → Nat} {m : Nat} {A : MA} {th : Int} {ba st pb le ri : Nat → Int} {sp : Nat → Nat → Int} {ct : Nat → Int} (hM : MSx τ w m A th ba st pb le ri sp ct) : Sp E l yX8_period cX8_period 2 (some .int) 3 (16) (48) [.ref m, iI v] w (fun r' w' => ∃ (t : Int) (ans : Int), r' = some (iI ans) ∧ MSx τ w' m A (t) (ba) (st) (pb) (le) (ri) (sp) (ct) ∧ Keep τ w w' ∧ (¬ GB v ∧ t = 1 ∧ ans = 0 ∨ GB v ∧ t = 0 ∧ ∃ (r : Int) (p : Nat), RT v r ∧ isPer v r p ∧ ans = p)) := by
  refine sp_intro [some (.ref m), some (iI v)] rfl (Nat.le_of_ble_eq_true rfl) pn_X8 ?_
  intro X C hRm hl hnm hQ
  obtain ⟨hRf, hRl, hRc, hRs⟩ := hRm
  refine g_wf (fun hwf => ?_)
  refine g_aload_n C dX8_period_0 rfl ?_
  refine g_iload_n C dX8_period_1 rfl ?_
  refine g_callS C (c_X8_isNoBase _ (v := v) h_v) ml_RX8_152 sm_yX8_isNoBase in_RX8 co_yX8_isNoBase hd_X8_isNoBase rfl ⟨by omega, by omega⟩ rfl (Nat.le_of_ble_eq_true rfl) ⟨by omega, by omega⟩ dX8_period_2 (fun v2 w2 hp2 => ?_)
  obtain ⟨⟨yb, rfl, hyb⟩, hw2⟩ := hp2
  subst w2
  have hyb01 : yb = 0 ∨ yb = 1 := by rcases hyb with q | q <;> omega
  refine g_iconst C dX8_period_5 ?_
  refine g_callV C (c_X8_start _ hM (y := yb) (wh := 1) (by omega) (by omega)) (ci := 10) rfl hM.o rfl ml_RX8_149 im_yX8_start se_RX8_yX8_start in_RX8 co_yX8_start hd_X8_start rfl ⟨by omega, by omega⟩ rfl (Nat.le_of_ble_eq_true rfl) ⟨by omega, by omega⟩ dX8_period_6 (fun v6 w6 hp6 => ?_)
  obtain ⟨t6, rfl, ht6, hM6, hK6⟩ := hp6
  have hy6 : (yb) = 0 ∨ (yb) = 1 := (by omega)
  refine g_if_eq (tgt := 16) C dX8_period_9 (by decide) (by omega) (fun h9 => ?_) (fun h9 => ?_)
  · have hg : GB v := by rcases hyb with q | q; exact q.2; omega
    obtain ⟨r, hr⟩ := RT_ex hg
    refine g_iload_n C dX8_period_16 rfl ?_
    refine g_callS C (c_X8_periodOf _ (b := v) (r := r) hg hr) ml_RX8_142 sm_yX8_periodOf in_RX8 co_yX8_periodOf hd_X8_periodOf rfl ⟨by omega, by omega⟩ rfl (Nat.le_of_ble_eq_true rfl) ⟨by omega, by omega⟩ dX8_period_17 (fun v17 w17 hp17 => ?_)
    obtain ⟨p, rfl, hp, hx⟩ := hp17
    exact g_ireturn C hQ dX8_period_20 (by omega) (by omega) (by
      first
      | exact ⟨t6, _, rfl, hM6.ex hx, hK6.tr (Keep.ex hx), Or.inr ⟨hg, by omega, r, p, hr, hp, rfl⟩⟩
      | exact ⟨t6, 0, rfl, hM6, hK6, Or.inl ⟨by rcases hyb with q | q; omega; exact q.2, by omega, rfl⟩⟩)
  · refine g_iconst C dX8_period_12 ?_
    refine g_goto (tgt := 20) C dX8_period_13 (by decide) ?_
    exact g_ireturn C hQ dX8_period_20 (by omega) (by omega) (by
      first
      | exact ⟨t6, _, rfl, hM6.ex hx, hK6.tr (Keep.ex hx), Or.inr ⟨hg, by omega, r, p, hr, hp, rfl⟩⟩
      | exact ⟨t6, 0, rfl, hM6, hK6, Or.inl ⟨by rcases hyb with q | q; omega; exact q.2, by omega, rfl⟩⟩)
set_option maxHeartbeats 4000000 in
set_option maxRecDepth 100000 in
theorem c_X8_house (l : Launch) {E : GE} {w : Wd} {v : Int} (h_v : -2147483648 ≤ v ∧ v < 2147483648) {τ : Nat → Nat} {m : Nat} {A : MA} {th : Int} {ba st pb le ri : Nat → Int} {sp : Nat → Nat → Int} {ct : Nat → Int} (hM : MSx τ w m A th ba st pb le ri sp ct) : Sp E l yX8_house cX8_house 2 (some .int) 2 (0) (0) [.ref m, iI v] w (fun r w' => ∃ (t : Int) (ans : Int), r = some (iI ans) ∧ MSx τ w' m A (t) (ba) (st) (pb) (le) (ri) (sp) (ct) ∧ Keep τ w w' ∧ (¬ (0 ≤ v ∧ v ≤ 4) ∧ t = 1 ∧ ans = 0 ∨ (0 ≤ v ∧ v ≤ 4) ∧ t = 0 ∧ ans = ct v.toNat)) := by
  refine sp_intro [some (.ref m), some (iI v)] rfl (Nat.le_of_ble_eq_true rfl) pn_X8 ?_
  intro X C hRm hl hnm hQ
  obtain ⟨hRf, hRl, hRc, hRs⟩ := hRm
  refine g_wf (fun hwf => ?_)
  refine g_aload_n C dX8_house_0 rfl ?_
  refine g_iload_n C dX8_house_1 rfl ?_
  refine g_iconst C dX8_house_2 ?_
  refine g_iconst C dX8_house_3 ?_
  refine g_callS C (c_X8_isIn _ (v := v) (a := 0) (b := 4) h_v (by omega) (by omega)) ml_RX8_49 sm_yX8_isIn in_RX8 co_yX8_isIn hd_X8_isIn rfl ⟨by omega, by omega⟩ rfl (Nat.le_of_ble_eq_true rfl) ⟨by omega, by omega⟩ dX8_house_4 (fun v4 w4 hp4 => ?_)
  obtain ⟨rfl, hw4⟩ := hp4
  subst w4
  have J15 : ∀ y : Int, (y = 0 ∧ (0 ≤ v ∧ v ≤ 4) ∨ y = 1 ∧ ¬ (0 ≤ v ∧ v ≤ 4)) → G E X 2 15 [some (.ref m), some (iI v)] [iI y, .ref m] w 0 0 := by
    intro y hy
    refine g_iconst C dX8_house_15 ?_
    refine g_callV C (c_X8_start _ hM (y := y) (wh := 1) (by omega) (by omega)) (ci := 10) rfl hM.o rfl ml_RX8_149 im_yX8_start se_RX8_yX8_start in_RX8 co_yX8_start hd_X8_start rfl ⟨by omega, by omega⟩ rfl (Nat.le_of_ble_eq_true rfl) ⟨by omega, by omega⟩ dX8_house_16 (fun v16 w16 hp16 => ?_)
    obtain ⟨t6, rfl, ht6, hM6, hK6⟩ := hp16
    have hy6 : (y) = 0 ∨ (y) = 1 := (by omega)
    refine g_if_eq (tgt := 26) C dX8_house_19 (by decide) (by omega) (fun h19 => ?_) (fun h19 => ?_)
    · refine g_aload_n C dX8_house_26 rfl ?_
      refine g_get (ci := 10) C rfl inTX8 7 (by decide) fl_RX8_38 rfl hM6.o rfl dX8_house_27 ?_
      refine g_iload_n C dX8_house_30 rfl ?_
      refine g_ialoadN (v.toNat) C hM6.c (by omega) (by omega) dX8_house_31 ?_
      exact g_ireturn C hQ dX8_house_32 (Nat.le_refl _) (Nat.le_refl _) (by
        first
        | exact ⟨t6, _, rfl, hM6, hK6, Or.inr ⟨by omega, by omega, rfl⟩⟩
        | exact ⟨t6, 0, rfl, hM6, hK6, Or.inl ⟨by omega, by omega, rfl⟩⟩)
    · refine g_iconst C dX8_house_22 ?_
      refine g_goto (tgt := 32) C dX8_house_23 (by decide) ?_
      exact g_ireturn C hQ dX8_house_32 (Nat.le_refl _) (Nat.le_refl _) (by
        first
        | exact ⟨t6, _, rfl, hM6, hK6, Or.inr ⟨by omega, by omega, rfl⟩⟩
        | exact ⟨t6, 0, rfl, hM6, hK6, Or.inl ⟨by omega, by omega, rfl⟩⟩)
  refine g_if_ne (tgt := 14) C dX8_house_7 (by decide) (bI_r _) (fun h7 => ?_) (fun h7 => ?_)
  · refine g_iconst C dX8_house_14 ?_
    exact J15 _ (by first | exact Or.inl ⟨rfl, bI_1 h7⟩ | exact Or.inr ⟨rfl, bI_0 (Classical.not_not.mp h7)⟩)
  · refine g_iconst C dX8_house_10 ?_
    refine g_goto (tgt := 15) C dX8_house_11 (by decide) ?_
    exact J15 _ (by first | exact Or.inl ⟨rfl, bI_1 h7⟩ | exact Or.inr ⟨rfl, bI_0 (Classical.not_not.mp h7)⟩)
set_option maxHeartbeats 4000000 in
set_option maxRecDepth 100000 in
theorem c_X8_knock (l : Launch) {E : GE} {w : Wd} {τ : Nat → Nat} {m : Nat} {A : MA} {th : Int} {ba st pb le ri : Nat → Int} {sp : Nat → Nat → Int} {ct : Nat → Int} (hM : MSx τ w m A th ba st pb le ri sp ct) : Sp E l yX8_knock cX8_knock 1 (some .int) 0 (0) (0) [.ref m] w (fun r w' => r = some (iI (ct 4 + 1)) ∧ MSx τ w' m A (0) (ba) (st) (pb) (le) (ri) (sp) (iup ct 4 (ct 4 + 1)) ∧ Keep τ w w') := by
  refine sp_intro [some (.ref m)] rfl (Nat.le_of_ble_eq_true rfl) pn_X8 ?_
  intro X C hRm hl hnm hQ
  obtain ⟨hRf, hRl, hRc, hRs⟩ := hRm
  refine g_wf (fun hwf => ?_)
  refine g_aload_n C dX8_knock_0 rfl ?_
  refine g_iconst C dX8_knock_1 ?_
  refine g_put (ci := 10) C rfl inTX8 tyX8 tyX8_ok nmX8 0 (by decide) fl_RX8_41 rfl rfl hM.o (Nat.le_of_ble_eq_true rfl) rfl rfl dX8_knock_2 ?_
  refine g_aload_n C dX8_knock_5 rfl ?_
  refine g_get (ci := 10) C rfl inTX8 7 (by decide) fl_RX8_38 rfl (hM.setO 0).o rfl dX8_knock_6 ?_
  refine g_iconst C dX8_knock_9 ?_
  refine g_dup2 C dX8_knock_10 rfl rfl ?_
  refine g_ialoadN (4) C (hM.setO 0).c (by omega) (by omega) dX8_knock_11 ?_
  refine g_iconst C dX8_knock_12 ?_
  refine g_iadd C dX8_knock_13 ?_
  refine g_iastoreN (4) C (hM.setO 0).c (by omega) (by omega) dX8_knock_14 ?_
  refine g_aload_n C dX8_knock_15 rfl ?_
  refine g_get (ci := 10) C rfl inTX8 7 (by decide) fl_RX8_38 rfl ((hM.setO 0).setC _).o rfl dX8_knock_16 ?_
  refine g_iconst C dX8_knock_19 ?_
  refine g_ialoadN (4) C ((hM.setO 0).setC _).c (by omega) (by omega) dX8_knock_20 ?_
  rw [iup_s]
  exact g_ireturn C hQ dX8_knock_21 (Nat.le_refl _) (Nat.le_refl _) ⟨rfl, (hM.setO 0).setC _, (Keep.set _ (by have := hM.tg; omega)).tr (Keep.set _ (by have := hM.tg; omega))⟩
set_option maxHeartbeats 4000000 in
set_option maxRecDepth 100000 in
theorem c_X8_pairBase (l : Launch) {E : GE} {w : Wd} {v : Int} (h_v : -2147483648 ≤ v ∧ v < 2147483648) {τ : Nat → Nat} {m : Nat} {A : MA} {th : Int} {ba st pb le ri : Nat → Int} {sp : Nat → Nat → Int} {ct : Nat → Int} (hM : MSx τ w m A th ba st pb le ri sp ct) : Sp E l yX8_pairBase cX8_pairBase 2 (some .int) 2 (0) (0) [.ref m, iI v] w (fun r w' => ∃ (t : Int) (ans : Int), r = some (iI ans) ∧ MSx τ w' m A (t) (ba) (st) (pb) (le) (ri) (sp) (ct) ∧ Keep τ w w' ∧ (¬ (0 ≤ v ∧ v ≤ 2) ∧ t = 1 ∧ ans = 0 ∨ (0 ≤ v ∧ v ≤ 2) ∧ t = 0 ∧ ans = pb v.toNat)) := by
  refine sp_intro [some (.ref m), some (iI v)] rfl (Nat.le_of_ble_eq_true rfl) pn_X8 ?_
  intro X C hRm hl hnm hQ
  obtain ⟨hRf, hRl, hRc, hRs⟩ := hRm
  refine g_wf (fun hwf => ?_)
  refine g_aload_n C dX8_pairBase_0 rfl ?_
  refine g_iload_n C dX8_pairBase_1 rfl ?_
  refine g_callS C (c_X8_isNo _ (v := v) h_v) ml_RX8_145 sm_yX8_isNo in_RX8 co_yX8_isNo hd_X8_isNo rfl ⟨by omega, by omega⟩ rfl (Nat.le_of_ble_eq_true rfl) ⟨by omega, by omega⟩ dX8_pairBase_2 (fun v2 w2 hp2 => ?_)
  obtain ⟨rfl, hw2⟩ := hp2
  subst w2
  refine g_iconst C dX8_pairBase_5 ?_
  refine g_callV C (c_X8_start _ hM (y := bI (¬ (0 ≤ v ∧ v ≤ 2))) (wh := 1) (bI_01 _) (by omega)) (ci := 10) rfl hM.o rfl ml_RX8_149 im_yX8_start se_RX8_yX8_start in_RX8 co_yX8_start hd_X8_start rfl ⟨by omega, by omega⟩ rfl (Nat.le_of_ble_eq_true rfl) ⟨by omega, by omega⟩ dX8_pairBase_6 (fun v6 w6 hp6 => ?_)
  obtain ⟨t6, rfl, ht6, hM6, hK6⟩ := hp6
  have hy6 : (bI (¬ (0 ≤ v ∧ v ≤ 2))) = 0 ∨ (bI (¬ (0 ≤ v ∧ v ≤ 2))) = 1 := (bI_01 _)
  refine g_if_eq (tgt := 16) C dX8_pairBase_9 (by decide) (bI_r _) (fun h9 => ?_) (fun h9 => ?_)
  · have hwk : 0 ≤ v ∧ v ≤ 2 := Classical.not_not.mp (bI_0 h9)
    refine g_aload_n C dX8_pairBase_16 rfl ?_
    refine g_get (ci := 10) C rfl inTX8 3 (by decide) fl_RX8_16 rfl hM6.o rfl dX8_pairBase_17 ?_
    refine g_iload_n C dX8_pairBase_20 rfl ?_
    refine g_ialoadN (v.toNat) C hM6.p (by omega) (by omega) dX8_pairBase_21 ?_
    exact g_ireturn C hQ dX8_pairBase_22 (Nat.le_refl _) (Nat.le_refl _) (by
      first
      | exact ⟨t6, _, rfl, hM6, hK6, Or.inr ⟨hwk, by omega, rfl⟩⟩
      | exact ⟨t6, 0, rfl, hM6, hK6, Or.inl ⟨bI_1 h9, by omega, rfl⟩⟩)
  · refine g_iconst C dX8_pairBase_12 ?_
    refine g_goto (tgt := 22) C dX8_pairBase_13 (by decide) ?_
    exact g_ireturn C hQ dX8_pairBase_22 (Nat.le_refl _) (Nat.le_refl _) (by
      first
      | exact ⟨t6, _, rfl, hM6, hK6, Or.inr ⟨hwk, by omega, rfl⟩⟩
      | exact ⟨t6, 0, rfl, hM6, hK6, Or.inl ⟨bI_1 h9, by omega, rfl⟩⟩)
set_option maxHeartbeats 4000000 in
set_option maxRecDepth 100000 in
theorem c_X8_wayOf (l : Launch) {E : GE} {w : Wd} {p : Nat} (hS : SPb p = true) : Sp E l yX8_wayOf cX8_wayOf 2 (some (.array .int)) 4 (22) (128) [iI (p : Int)] w (fun r w' => ∃ (q : Nat) (f : Nat → Int) (j : Nat), r = some (.ref q) ∧ w'.2 q = some (true, eI 2 f) ∧ SV p j ∧ f 0 = (spS p j).1 ∧ f 1 = (spS p j).2.1 ∧ (spS p j).1 * (spS p j).1 < p ∧ (∀ i, i < j → p ≤ (spS p i).1 * (spS p i).1) ∧ Fr w w') := by
  refine sp_intro [some (iI (p : Int)), none] rfl (Nat.le_of_ble_eq_true rfl) pn_X8 ?_
  intro X C hRm hl hnm hQ
  obtain ⟨hRf, hRl, hRc, hRs⟩ := hRm
  refine g_wf (fun hwf => ?_)
  refine g_iload_n C dX8_wayOf_0 rfl ?_
  refine g_callS C (c_X8_begun _ hS) ml_RX8_31 sm_yX8_begun in_RX8 co_yX8_begun hd_X8_begun rfl ⟨by omega, by omega⟩ rfl (Nat.le_of_ble_eq_true rfl) ⟨by omega, by omega⟩ dX8_wayOf_1 (fun v1 w1 hp1 => ?_)
  obtain ⟨f, rfl, rfl, hRf⟩ := hp1
  refine g_astore_n C dX8_wayOf_4 (by decide) rfl ?_
  refine g_aload_n C dX8_wayOf_5 rfl ?_
  refine g_callS C (c_X8_settled _ (a := w.1) wpush_s hRf) ml_RX8_267 sm_yX8_settled in_RX8 co_yX8_settled hd_X8_settled rfl ⟨by omega, by omega⟩ rfl (Nat.le_of_ble_eq_true rfl) ⟨by omega, by omega⟩ dX8_wayOf_6 (fun v6 w6 hp6 => ?_)
  obtain ⟨j, g, rfl, hg, hRg, fx, hlt, hall⟩ := hp6
  refine g_wf (fun hwf6 => ?_)
  have hq6 := hwf6 _ _ hg
  rw [Nat.zero_add] at hRg hlt hall
  refine g_pop C dX8_wayOf_9 rfl ?_
  refine g_iconst C dX8_wayOf_10 ?_
  refine g_newI C gw_arrayClass_int (N := 2) rfl (by omega) (by omega) dX8_wayOf_11 ?_
  refine g_dup C dX8_wayOf_13 rfl ?_
  refine g_iconst C dX8_wayOf_14 ?_
  refine g_aload_n C dX8_wayOf_15 rfl ?_
  refine g_iconst C dX8_wayOf_16 ?_
  refine g_ialoadN (1) C (by rw [wpush_n (by omega)]; exact hg) (by omega) (by omega) dX8_wayOf_17 ?_
  refine g_iastore C wpush_s (by omega) dX8_wayOf_18 ?_
  rw [wset_push]
  refine g_dup C dX8_wayOf_19 rfl ?_
  refine g_iconst C dX8_wayOf_20 ?_
  refine g_aload_n C dX8_wayOf_21 rfl ?_
  refine g_iconst C dX8_wayOf_22 ?_
  refine g_ialoadN (2) C (by rw [wpush_n (by omega)]; exact hg) (by omega) (by omega) dX8_wayOf_23 ?_
  refine g_iastore C wpush_s (by omega) dX8_wayOf_24 ?_
  rw [wset_push]
  exact g_areturn C (Or.inr ⟨_, rfl⟩) hQ (Or.inr ⟨_, rfl⟩) dX8_wayOf_25 (by omega) (by omega) ⟨_, _, j, rfl, wpush_s, hRg.1, hRg.2.2.1, hRg.2.2.2.1, hlt, fun i hi => hall i (Nat.zero_le i) hi, ⟨by have := fx.1; show w.1 ≤ w6.1 + 1; have h2 : w.1 + 1 ≤ w6.1 := this; omega, fun b hb => by
    rw [wpush_n (by have h2 : w.1 + 1 ≤ w6.1 := fx.1; omega), fx.2 b (by show b < w.1 + 1; omega) (by omega), wpush_n (by omega)]⟩⟩
abbrev MA.setL (A : MA) (R : Nat → Option Nat) : MA := (A.1, A.2.1, A.2.2.1, A.2.2.2.1, A.2.2.2.2.1, A.2.2.2.2.2.1, A.2.2.2.2.2.2.1, R, A.2.2.2.2.2.2.2.2.1, A.2.2.2.2.2.2.2.2.2)
abbrev MA.setR (A : MA) (R : Nat → Option Nat) : MA := (A.1, A.2.1, A.2.2.1, A.2.2.2.1, A.2.2.2.2.1, A.2.2.2.2.2.1, A.2.2.2.2.2.2.1, A.2.2.2.2.2.2.2.1, R, A.2.2.2.2.2.2.2.2.2)
section
variable {τ : Nat → Nat} {w w' : Wd} {m : Nat} {A : MA} {th : Int} {ba st pb le ri : Nat → Int} {sp : Nat → Nat → Int} {ct : Nat → Int}
theorem MSx.setL (h : MSx τ w m A th ba st pb le ri sp ct) {i q : Nat} {z : Int} (hq : τ q = 9) (hf : RowAt w q z 4) : MSx τ (wset w A.2.2.2.1 (true, eR 2 3 (rup A.2.2.2.2.2.2.2.1 i (some q)))) m (A.setL (rup A.2.2.2.2.2.2.2.1 i (some q))) th ba st pb (iup le i z) ri sp ct := by
  have t := h.tg
  have k : ∀ a, τ a ≠ 5 → (wset w A.2.2.2.1 (true, eR 2 3 (rup A.2.2.2.2.2.2.2.1 i (some q)))).2 a = w.2 a := fun a ha => wset_n (fun e => ha (by rw [e]; omega))
  refine ⟨(k m (by omega)).trans h.o, t, ⟨(k A.1 (by omega)).trans h.b, (k A.2.1 (by omega)).trans h.s, (k A.2.2.1 (by omega)).trans h.p, (k A.2.2.2.2.2.2.1 (by omega)).trans h.c⟩, ⟨wset_s, (k A.2.2.2.2.1 (by omega)).trans h.r, (k A.2.2.2.2.2.1 (by omega)).trans h.z⟩, fun j hj => ?_, fun j hj => ?_, fun j hj => ?_⟩
  · by_cases e : j = i
    · subst e
      exact ⟨q, rup_s, hq, by rw [iup_s]; exact hf.keep (k q (by omega))⟩
    · obtain ⟨q', a, b, c⟩ := h.L hj
      exact ⟨q', (rup_n e).trans a, b, by rw [iup_n e]; exact c.keep (k q' (by omega))⟩
  · obtain ⟨q, a, b, c⟩ := h.R hj
    exact ⟨q, a, b, c.keep (k q (by omega))⟩
  · obtain ⟨q, a, b, c⟩ := h.Z hj
    exact ⟨q, a, b, (k q (by omega)).trans c⟩
theorem MSx.setR (h : MSx τ w m A th ba st pb le ri sp ct) {i q : Nat} {z : Int} (hq : τ q = 9) (hf : RowAt w q z 4) : MSx τ (wset w A.2.2.2.2.1 (true, eR 2 3 (rup A.2.2.2.2.2.2.2.2.1 i (some q)))) m (A.setR (rup A.2.2.2.2.2.2.2.2.1 i (some q))) th ba st pb le (iup ri i z) sp ct := by
  have t := h.tg
  have k : ∀ a, τ a ≠ 6 → (wset w A.2.2.2.2.1 (true, eR 2 3 (rup A.2.2.2.2.2.2.2.2.1 i (some q)))).2 a = w.2 a := fun a ha => wset_n (fun e => ha (by rw [e]; omega))
  refine ⟨(k m (by omega)).trans h.o, t, ⟨(k A.1 (by omega)).trans h.b, (k A.2.1 (by omega)).trans h.s, (k A.2.2.1 (by omega)).trans h.p, (k A.2.2.2.2.2.2.1 (by omega)).trans h.c⟩, ⟨(k A.2.2.2.1 (by omega)).trans h.l, wset_s, (k A.2.2.2.2.2.1 (by omega)).trans h.z⟩, fun j hj => ?_, fun j hj => ?_, fun j hj => ?_⟩
  · obtain ⟨q, a, b, c⟩ := h.L hj
    exact ⟨q, a, b, c.keep (k q (by omega))⟩
  · by_cases e : j = i
    · subst e
      exact ⟨q, rup_s, hq, by rw [iup_s]; exact hf.keep (k q (by omega))⟩
    · obtain ⟨q', a, b, c⟩ := h.R hj
      exact ⟨q', (rup_n e).trans a, b, by rw [iup_n e]; exact c.keep (k q' (by omega))⟩
  · obtain ⟨q, a, b, c⟩ := h.Z hj
    exact ⟨q, a, b, (k q (by omega)).trans c⟩
end
theorem BN.abs {f : Nat → Int} {n : Nat} {z : Int} (h : BN f n z) : mg f n = aB z := by
  have hs := h.s
  have hm := h.m
  unfold aB
  rcases hs with q | q | q
  · rw [if_pos q.2.1, hm, q.1]; omega
  · rw [if_neg (by omega), q.2.1]
    rw [q.2.2]; rfl
  · rw [if_neg (by omega), hm, q.1]; omega
theorem B30_3 : B30 ^ 3 = 1237940039285380274899124224 := by
  show (1073741824 : Int) ^ 3 = _; simp
abbrev LGN : Int := 1208925819614629174706176
theorem BN.short {f : Nat → Int} {n : Nat} {z : Int} (h : BN f n z) (hz : ¬ LGN ≤ aB z) : n ≤ 4 := by
  refine h.cap (k := 3) ?_
  rw [B30_3]
  rw [show LGN = (1208925819614629174706176 : Int) from rfl] at hz
  unfold aB at hz
  split at hz <;> omega
theorem RowAt.short {w : Wd} {q cap : Nat} {z : Int} (h : RowAt w q z cap) (hz : ¬ LGN ≤ aB z) : RowAt w q z 4 := by
  obtain ⟨n, f, a, b, c⟩ := h
  exact ⟨n, f, a, b, b.short hz⟩
/-- new rows are the model's -/
def rtag (τ : Nat → Nat) (n : Nat) : Nat → Nat := fun a => if a < n then τ a else 9
theorem rtag_lo {τ : Nat → Nat} {n a : Nat} (h : a < n) : rtag τ n a = τ a := if_pos h
theorem rtag_hi {τ : Nat → Nat} {n a : Nat} (h : n ≤ a) : rtag τ n a = 9 := if_neg (by omega)
set_option maxHeartbeats 4000000 in
set_option maxRecDepth 100000 in
theorem c_X8_its (l : Launch) {E : GE} {w : Wd} {τ : Nat → Nat} {m : Nat} {A : MA} {th : Int} {ba st pb le ri : Nat → Int} {sp : Nat → Nat → Int} {ct : Nat → Int} (hM : MSx τ w m A th ba st pb le ri sp ct) {i : Nat} {y : Int} (hi : i < 3) (hy : y = 0 ∨ y = 1) : Sp E l yX8_its cX8_its 3 (some (.array .int)) 0 (0) (0) [.ref m, iI (i : Int), iI y] w (fun r w' => (∃ q, r = some (.ref q) ∧ τ q = 9 ∧ RowAt w q (if y = 1 then le i else ri i) 4) ∧ w' = w) := by
  refine sp_intro [some (.ref m), some (iI (i : Int)), some (iI y)] rfl (Nat.le_of_ble_eq_true rfl) pn_X8 ?_
  intro X C hRm hl hnm hQ
  obtain ⟨hRf, hRl, hRc, hRs⟩ := hRm
  refine g_wf (fun hwf => ?_)
  obtain ⟨q1, hq1, tq1, r1⟩ := hM.L hi
  obtain ⟨q2, hq2, tq2, r2⟩ := hM.R hi
  refine g_iload_n C dX8_its_0 rfl ?_
  refine g_if_eq (tgt := 13) C dX8_its_1 (by decide) (by omega) (fun h1 => ?_) (fun h1 => ?_)
  · refine g_aload_n C dX8_its_13 rfl ?_
    refine g_get (ci := 10) C rfl inTX8 5 (by decide) fl_RX8_28 rfl hM.o rfl dX8_its_14 ?_
    refine g_iload_n C dX8_its_17 rfl ?_
    refine g_aaloadN (i) C rfl rfl hM.r (by omega) (by omega) hq2 dX8_its_18 ?_
    exact g_areturn C (Or.inr ⟨_, rfl⟩) hQ (Or.inr ⟨_, rfl⟩) dX8_its_19 (by omega) (by omega) ⟨by first | exact ⟨q1, rfl, tq1, by rw [if_pos (by omega)]; exact r1⟩ | exact ⟨q2, rfl, tq2, by rw [if_neg (by omega)]; exact r2⟩, rfl⟩
  · refine g_aload_n C dX8_its_4 rfl ?_
    refine g_get (ci := 10) C rfl inTX8 4 (by decide) fl_RX8_24 rfl hM.o rfl dX8_its_5 ?_
    refine g_iload_n C dX8_its_8 rfl ?_
    refine g_aaloadN (i) C rfl rfl hM.l (by omega) (by omega) hq1 dX8_its_9 ?_
    refine g_goto (tgt := 19) C dX8_its_10 (by decide) ?_
    exact g_areturn C (Or.inr ⟨_, rfl⟩) hQ (Or.inr ⟨_, rfl⟩) dX8_its_19 (by omega) (by omega) ⟨by first | exact ⟨q1, rfl, tq1, by rw [if_pos (by omega)]; exact r1⟩ | exact ⟨q2, rfl, tq2, by rw [if_neg (by omega)]; exact r2⟩, rfl⟩
set_option maxHeartbeats 4000000 in
set_option maxRecDepth 100000 in
theorem c_X8_areSame (l : Launch) {E : GE} {w : Wd} {u v : Int} {a1 a2 a3 a4 : Nat} {z1 z2 z3 z4 : Int} (r1 : RowAt w a1 z1 9) (r2 : RowAt w a2 z2 9) (r3 : RowAt w a3 z3 9) (r4 : RowAt w a4 z4 9) (hb1 : -2147483648 ≤ u ∧ u < 2147483648) (hb2 : -2147483648 ≤ v ∧ v < 2147483648) : Sp E l yX8_areSame cX8_areSame 6 (some .boolean) 2 (0) (0) [iI u, .ref a1, .ref a2, iI v, .ref a3, .ref a4] w (fun r w' => r = some (iI (bI (u = v ∧ z1 = z3 ∧ z2 = z4))) ∧ w' = w) := by
  refine sp_intro [some (iI u), some (.ref a1), some (.ref a2), some (iI v), some (.ref a3), some (.ref a4)] rfl (Nat.le_of_ble_eq_true rfl) pn_X8 ?_
  intro X C hRm hl hnm hQ
  obtain ⟨hRf, hRl, hRc, hRs⟩ := hRm
  refine g_wf (fun hwf => ?_)
  obtain ⟨n1, f1, e1, b1, c1⟩ := r1
  obtain ⟨n2, f2, e2, b2, c2⟩ := r2
  obtain ⟨n3, f3, e3, b3, c3⟩ := r3
  obtain ⟨n4, f4, e4, b4, c4⟩ := r4
  refine g_iload_n C dX8_areSame_0 rfl ?_
  refine g_iload_n C dX8_areSame_1 rfl ?_
  refine g_icmp_ne (tgt := 27) C dX8_areSame_2 (by decide) hb1 hb2 (fun h2 => ?_) (fun h2 => ?_)
  · refine g_iconst C dX8_areSame_27 ?_
    exact g_zreturn C hQ dX8_areSame_28 rfl (Nat.le_refl _) (Nat.le_refl _) ⟨by first | rw [bI_t (by omega)] | rw [bI_f (by omega)], rfl⟩
  · refine g_aload_n C dX8_areSame_5 rfl ?_
    refine g_aload C dX8_areSame_6 rfl ?_
    refine g_callS C (c_X8_side _ e1 e3 b1 b3 (by omega) (by omega)) ml_RX8_199 sm_yX8_side in_RX8 co_yX8_side hd_X8_side rfl ⟨by omega, by omega⟩ rfl (Nat.le_of_ble_eq_true rfl) ⟨by omega, by omega⟩ dX8_areSame_8 (fun v8 w8 hp8 => ?_)
    obtain ⟨⟨d8, rfl, hd8⟩, hw8⟩ := hp8
    subst w8
    refine g_if_ne (tgt := 27) C dX8_areSame_11 (by decide) (by omega) (fun h11 => ?_) (fun h11 => ?_)
    · refine g_iconst C dX8_areSame_27 ?_
      exact g_zreturn C hQ dX8_areSame_28 rfl (Nat.le_refl _) (Nat.le_refl _) ⟨by first | rw [bI_t (by omega)] | rw [bI_f (by omega)], rfl⟩
    · refine g_aload_n C dX8_areSame_14 rfl ?_
      refine g_aload C dX8_areSame_15 rfl ?_
      refine g_callS C (c_X8_side _ e2 e4 b2 b4 (by omega) (by omega)) ml_RX8_199 sm_yX8_side in_RX8 co_yX8_side hd_X8_side rfl ⟨by omega, by omega⟩ rfl (Nat.le_of_ble_eq_true rfl) ⟨by omega, by omega⟩ dX8_areSame_17 (fun v17 w17 hp17 => ?_)
      obtain ⟨⟨d17, rfl, hd17⟩, hw17⟩ := hp17
      subst w17
      refine g_if_ne (tgt := 27) C dX8_areSame_20 (by decide) (by omega) (fun h20 => ?_) (fun h20 => ?_)
      · refine g_iconst C dX8_areSame_27 ?_
        exact g_zreturn C hQ dX8_areSame_28 rfl (Nat.le_refl _) (Nat.le_refl _) ⟨by first | rw [bI_t (by omega)] | rw [bI_f (by omega)], rfl⟩
      · refine g_iconst C dX8_areSame_23 ?_
        refine g_goto (tgt := 28) C dX8_areSame_24 (by decide) ?_
        exact g_zreturn C hQ dX8_areSame_28 rfl (Nat.le_refl _) (Nat.le_refl _) ⟨by first | rw [bI_t (by omega)] | rw [bI_f (by omega)], rfl⟩
theorem RowAt.le {w : Wd} {q c c' : Nat} {z : Int} (h : RowAt w q z c) (hc : c ≤ c') : RowAt w q z c' := by
  obtain ⟨n, f, a, b, d⟩ := h
  exact ⟨n, f, a, b, by omega⟩
set_option maxHeartbeats 4000000 in
set_option maxRecDepth 100000 in
theorem c_X8_become (l : Launch) {E : GE} {w : Wd} {τ : Nat → Nat} {m : Nat} {A : MA} {th : Int} {ba st pb le ri : Nat → Int} {sp : Nat → Nat → Int} {ct : Nat → Int} (hM : MSx τ w m A th ba st pb le ri sp ct) {i a1 a2 : Nat} {bz z1 z2 : Int} (hi : i < 3) (hp1 : -2147483648 ≤ pb i ∧ pb i < 2147483648) (hp2 : -2147483648 ≤ bz ∧ bz < 2147483648) (t1 : τ a1 = 9) (t2 : τ a2 = 9) (r1 : RowAt w a1 z1 4) (r2 : RowAt w a2 z2 4) : Sp E l yX8_become cX8_become 6 (some .int) 3 (0) (0) [.ref m, iI (i : Int), iI bz, .ref a1, .ref a2] w (fun r w' => r = some (iI (bI (¬ (pb i = bz ∧ le i = z1 ∧ ri i = z2)))) ∧ MSx τ w' m ((A.setL (rup A.2.2.2.2.2.2.2.1 i (some a1))).setR (rup A.2.2.2.2.2.2.2.2.1 i (some a2))) (th) (ba) (st) (iup pb i bz) (iup le i z1) (iup ri i z2) (sp) (iup ct 1 (ct 1 + 1)) ∧ Keep τ w w') := by
  refine sp_intro [some (.ref m), some (iI (i : Int)), some (iI bz), some (.ref a1), some (.ref a2), none] rfl (Nat.le_of_ble_eq_true rfl) pn_X8 ?_
  intro X C hRm hl hnm hQ
  obtain ⟨hRf, hRl, hRc, hRs⟩ := hRm
  refine g_wf (fun hwf => ?_)
  obtain ⟨q1, hq1, tq1, s1⟩ := hM.L hi
  obtain ⟨q2, hq2, tq2, s2⟩ := hM.R hi
  obtain ⟨x1, g1, e1, -, -⟩ := id r1
  obtain ⟨x2, g2, e2, -, -⟩ := id r2
  have tt := hM.tg
  refine g_aload_n C dX8_become_0 rfl ?_
  refine g_get (ci := 10) C rfl inTX8 3 (by decide) fl_RX8_16 rfl hM.o rfl dX8_become_1 ?_
  refine g_iload_n C dX8_become_4 rfl ?_
  refine g_ialoadN (i) C hM.p (by omega) (by omega) dX8_become_5 ?_
  refine g_aload_n C dX8_become_6 rfl ?_
  refine g_get (ci := 10) C rfl inTX8 4 (by decide) fl_RX8_24 rfl hM.o rfl dX8_become_7 ?_
  refine g_iload_n C dX8_become_10 rfl ?_
  refine g_aaloadN (i) C rfl rfl hM.l (by omega) (by omega) hq1 dX8_become_11 ?_
  refine g_aload_n C dX8_become_12 rfl ?_
  refine g_get (ci := 10) C rfl inTX8 5 (by decide) fl_RX8_28 rfl hM.o rfl dX8_become_13 ?_
  refine g_iload_n C dX8_become_16 rfl ?_
  refine g_aaloadN (i) C rfl rfl hM.r (by omega) (by omega) hq2 dX8_become_17 ?_
  refine g_iload_n C dX8_become_18 rfl ?_
  refine g_aload_n C dX8_become_19 rfl ?_
  refine g_aload C dX8_become_20 rfl ?_
  refine g_callS C (c_X8_areSame _ (s1.le (by omega)) (s2.le (by omega)) (r1.le (by omega)) (r2.le (by omega)) hp1 hp2) ml_RX8_228 sm_yX8_areSame in_RX8 co_yX8_areSame hd_X8_areSame rfl ⟨by omega, by omega⟩ rfl (Nat.le_of_ble_eq_true rfl) ⟨by omega, by omega⟩ dX8_become_22 (fun v22 w22 hp22 => ?_)
  obtain ⟨rfl, hw22⟩ := hp22
  subst w22
  refine g_istore C dX8_become_25 (by decide) rfl ?_
  refine g_aload_n C dX8_become_27 rfl ?_
  refine g_get (ci := 10) C rfl inTX8 3 (by decide) fl_RX8_16 rfl hM.o rfl dX8_become_28 ?_
  refine g_iload_n C dX8_become_31 rfl ?_
  refine g_iload_n C dX8_become_32 rfl ?_
  refine g_iastoreN (i) C hM.p (by omega) (by omega) dX8_become_33 ?_
  refine g_aload_n C dX8_become_34 rfl ?_
  refine g_get (ci := 10) C rfl inTX8 4 (by decide) fl_RX8_24 rfl (hM.setP _).o rfl dX8_become_35 ?_
  refine g_iload_n C dX8_become_38 rfl ?_
  refine g_aload_n C dX8_become_39 rfl ?_
  refine g_aastoreI C i (hM.setP _).l (b := true) (m := x1) (g := g1) (by rw [wset_n (fun e => by rw [e] at t1; omega)]; exact e1) (by omega) (by omega) dX8_become_40 ?_
  refine g_aload_n C dX8_become_41 rfl ?_
  refine g_get (ci := 10) C rfl inTX8 5 (by decide) fl_RX8_28 rfl ((hM.setP (iup pb i bz)).setL (i := i) t1 (r1.keep (wset_n (fun e => by rw [e] at t1; omega)))).o rfl dX8_become_42 ?_
  refine g_iload_n C dX8_become_45 rfl ?_
  refine g_aload C dX8_become_46 rfl ?_
  refine g_aastoreI C i ((hM.setP (iup pb i bz)).setL (i := i) t1 (r1.keep (wset_n (fun e => by rw [e] at t1; omega)))).r (b := true) (m := x2) (g := g2) (by rw [wset_n (fun e => by rw [e] at t2; omega), wset_n (fun e => by rw [e] at t2; omega)]; exact e2) (by omega) (by omega) dX8_become_48 ?_
  have hM5 := (((hM.setP (iup pb i bz)).setL (i := i) t1 (r1.keep (wset_n (fun e => by rw [e] at t1; omega)))).setR (i := i) t2 (r2.keep (by rw [wset_n (fun e => by rw [e] at t2; omega), wset_n (fun e => by rw [e] at t2; omega)])))
  refine g_aload_n C dX8_become_49 rfl ?_
  refine g_iconst C dX8_become_50 ?_
  refine g_iload C dX8_become_51 rfl ?_
  have J61 : ∀ x : Int, x = bI (¬ (pb i = bz ∧ le i = z1 ∧ ri i = z2)) → G E X 6 61 [some (.ref m), some (iI (i : Int)), some (iI bz), some (.ref a1), some (.ref a2), some (iI (bI (pb i = bz ∧ le i = z1 ∧ ri i = z2)))] [iI x, iI 1, .ref m] (wset (wset (wset w A.2.2.1 (true, eI 3 (iup pb i bz))) A.2.2.2.1 (true, eR 2 3 (rup A.2.2.2.2.2.2.2.1 i (some a1)))) A.2.2.2.2.1 (true, eR 2 3 (rup A.2.2.2.2.2.2.2.2.1 i (some a2)))) 0 0 := by
    intro x hx
    refine g_callV C (c_X8_done _ hM5 (kd := 1) (to := x) (by omega)) (ci := 10) rfl hM5.o rfl ml_RX8_155 im_yX8_done se_RX8_yX8_done in_RX8 co_yX8_done hd_X8_done rfl ⟨by omega, by omega⟩ rfl (Nat.le_of_ble_eq_true rfl) ⟨by omega, by omega⟩ dX8_become_61 (fun v61 w61 hp61 => ?_)
    obtain ⟨rfl, hM9, hK9⟩ := hp61
    exact g_ireturn C hQ dX8_become_64 (Nat.le_refl _) (Nat.le_refl _) ⟨by rw [hx], hM9, ((((Keep.set _ (show τ A.2.2.1 < 100 by omega)).tr (Keep.set _ (show τ A.2.2.2.1 < 100 by omega))).tr (Keep.set _ (show τ A.2.2.2.2.1 < 100 by omega))).tr hK9)⟩
  refine g_if_eq (tgt := 60) C dX8_become_53 (by decide) (bI_r _) (fun h53 => ?_) (fun h53 => ?_)
  · refine g_iconst C dX8_become_60 ?_
    exact J61 _ (by first | rw [bI_t (bI_0 h53)] | rw [bI_f (fun q => q (bI_1 h53))])
  · refine g_iconst C dX8_become_56 ?_
    refine g_goto (tgt := 61) C dX8_become_57 (by decide) ?_
    exact J61 _ (by first | rw [bI_t (bI_0 h53)] | rw [bI_f (fun q => q (bI_1 h53))])
theorem RowAt.ex4 {w w' : Wd} {q c : Nat} {z : Int} (h : RowAt w q z c) (e : Ex w w') : RowAt w' q z c := h.ex e
theorem GB.i {b : Int} (h : GB b) : -2147483648 ≤ b ∧ b < 2147483648 := by have h1 := h.1; have h2 := h.2.1; omega
theorem RowAt.lt {w : Wd} {q c : Nat} {z : Int} (h : RowAt w q z c) (hw : wF w) : q < w.1 := by
  obtain ⟨n, f, a, -, -⟩ := h
  exact hw q _ a
/-- what every pair keeps -/
def HPp (pb le ri : Nat → Int) : Prop := ∀ i, i < 3 → GB (pb i) ∧ ¬ LGN ≤ aB (le i) ∧ ¬ LGN ≤ aB (ri i)
set_option maxHeartbeats 4000000 in
set_option maxRecDepth 100000 in
theorem c_X8_pairCopy (l : Launch) {E : GE} {w : Wd} {v into : Int} (h_v : -2147483648 ≤ v ∧ v < 2147483648) (h_into : -2147483648 ≤ into ∧ into < 2147483648) {τ : Nat → Nat} {m : Nat} {A : MA} {th : Int} {ba st pb le ri : Nat → Int} {sp : Nat → Nat → Int} {ct : Nat → Int} (hM : MSx τ w m A th ba st pb le ri sp ct) (hP : HPp pb le ri) : Sp E l yX8_pairCopy cX8_pairCopy 3 (some .int) 4 (0) (0) [.ref m, iI v, iI into] w (fun r w' => ∃ (τ' : Nat → Nat) (A' : MA) (t : Int) (pb' le' ri' ct' : Nat → Int) (ans : Int), (∀ a, a < w.1 → τ' a = τ a) ∧ r = some (iI ans) ∧ MSx τ' w' m A' (t) (ba) (st) (pb') (le') (ri') (sp) (ct') ∧ Keep τ w w' ∧ (¬ ((0 ≤ v ∧ v ≤ 2) ∧ (0 ≤ into ∧ into ≤ 2)) ∧ t = 1 ∧ ans = 0 ∧ pb' = pb ∧ le' = le ∧ ri' = ri ∧ ct' = ct ∨ ((0 ≤ v ∧ v ≤ 2) ∧ (0 ≤ into ∧ into ≤ 2)) ∧ t = 0 ∧ ans = bI (¬ (pb into.toNat = (pb v.toNat) ∧ le into.toNat = (le v.toNat) ∧ ri into.toNat = (ri v.toNat))) ∧ pb' = iup pb into.toNat (pb v.toNat) ∧ le' = iup le into.toNat (le v.toNat) ∧ ri' = iup ri into.toNat (ri v.toNat) ∧ ct' = iup ct 1 (ct 1 + 1))) := by
  refine sp_intro [some (.ref m), some (iI v), some (iI into)] rfl (Nat.le_of_ble_eq_true rfl) pn_X8 ?_
  intro X C hRm hl hnm hQ
  obtain ⟨hRf, hRl, hRc, hRs⟩ := hRm
  refine g_wf (fun hwf => ?_)
  refine g_aload_n C dX8_pairCopy_0 rfl ?_
  refine g_iload_n C dX8_pairCopy_1 rfl ?_
  refine g_callS C (c_X8_isNo _ (v := v) h_v) ml_RX8_145 sm_yX8_isNo in_RX8 co_yX8_isNo hd_X8_isNo rfl ⟨by omega, by omega⟩ rfl (Nat.le_of_ble_eq_true rfl) ⟨by omega, by omega⟩ dX8_pairCopy_2 (fun v2 w2 hp2 => ?_)
  obtain ⟨rfl, hw2⟩ := hp2
  subst w2
  have J20 : ∀ y : Int, (y = 0 ∧ (0 ≤ v ∧ v ≤ 2) ∧ (0 ≤ into ∧ into ≤ 2) ∨ y = 1 ∧ ¬ ((0 ≤ v ∧ v ≤ 2) ∧ (0 ≤ into ∧ into ≤ 2))) → G E X 3 20 [some (.ref m), some (iI v), some (iI into)] [iI y, .ref m] w 0 0 := by
    intro y hy
    refine g_iconst C dX8_pairCopy_20 ?_
    refine g_callV C (c_X8_start _ hM (y := y) (wh := 1) (by omega) (by omega)) (ci := 10) rfl hM.o rfl ml_RX8_149 im_yX8_start se_RX8_yX8_start in_RX8 co_yX8_start hd_X8_start rfl ⟨by omega, by omega⟩ rfl (Nat.le_of_ble_eq_true rfl) ⟨by omega, by omega⟩ dX8_pairCopy_21 (fun v21 w21 hp21 => ?_)
    obtain ⟨t6, rfl, ht6, hM6, hK6⟩ := hp21
    have hy6 : (y) = 0 ∨ (y) = 1 := (by omega)
    refine g_if_eq (tgt := 31) C dX8_pairCopy_24 (by decide) (by omega) (fun h24 => ?_) (fun h24 => ?_)
    · have hin : (0 ≤ v ∧ v ≤ 2) ∧ (0 ≤ into ∧ into ≤ 2) := by omega
      obtain ⟨V, rfl⟩ := Int.eq_ofNat_of_zero_le hin.1.1
      obtain ⟨I, rfl⟩ := Int.eq_ofNat_of_zero_le hin.2.1
      obtain ⟨q1, hq1, tq1, r1⟩ := hM6.L (i := V) (by omega)
      obtain ⟨q2, hq2, tq2, r2⟩ := hM6.R (i := V) (by omega)
      have g1 := (hP V (by omega)).1.i
      have g2 := (hP I (by omega)).1.i
      refine g_aload_n C dX8_pairCopy_31 rfl ?_
      refine g_iload_n C dX8_pairCopy_32 rfl ?_
      refine g_aload_n C dX8_pairCopy_33 rfl ?_
      refine g_get (ci := 10) C rfl inTX8 3 (by decide) fl_RX8_16 rfl hM6.o rfl dX8_pairCopy_34 ?_
      refine g_iload_n C dX8_pairCopy_37 rfl ?_
      refine g_ialoadN (V) C hM6.p (by omega) (by omega) dX8_pairCopy_38 ?_
      refine g_aload_n C dX8_pairCopy_39 rfl ?_
      refine g_get (ci := 10) C rfl inTX8 4 (by decide) fl_RX8_24 rfl hM6.o rfl dX8_pairCopy_40 ?_
      refine g_iload_n C dX8_pairCopy_43 rfl ?_
      refine g_aaloadN (V) C rfl rfl hM6.l (by omega) (by omega) hq1 dX8_pairCopy_44 ?_
      refine g_aload_n C dX8_pairCopy_45 rfl ?_
      refine g_get (ci := 10) C rfl inTX8 5 (by decide) fl_RX8_28 rfl hM6.o rfl dX8_pairCopy_46 ?_
      refine g_iload_n C dX8_pairCopy_49 rfl ?_
      refine g_aaloadN (V) C rfl rfl hM6.r (by omega) (by omega) hq2 dX8_pairCopy_50 ?_
      refine g_callV C (c_X8_become _ hM6 (i := I) (bz := pb V) (by omega) g2 g1 tq1 tq2 r1 r2) (ci := 10) rfl hM6.o rfl ml_RX8_232 im_yX8_become se_RX8_yX8_become in_RX8 co_yX8_become hd_X8_become rfl ⟨by omega, by omega⟩ rfl (Nat.le_of_ble_eq_true rfl) ⟨by omega, by omega⟩ dX8_pairCopy_51 (fun v51 w51 hp51 => ?_)
      obtain ⟨rfl, hM9, hK9⟩ := hp51
      exact g_ireturn C hQ dX8_pairCopy_54 (Nat.le_refl _) (Nat.le_refl _) (by
        first
        | exact ⟨τ, _, t6, _, _, _, _, _, (fun _ _ => rfl), rfl, hM9, hK6.tr hK9, Or.inr ⟨hin, by omega, rfl, rfl, rfl, rfl, rfl⟩⟩
        | exact ⟨τ, _, t6, _, _, _, _, _, (fun _ _ => rfl), rfl, hM6, hK6, Or.inl ⟨by omega, by omega, rfl, rfl, rfl, rfl, rfl⟩⟩)
    · refine g_iconst C dX8_pairCopy_27 ?_
      refine g_goto (tgt := 54) C dX8_pairCopy_28 (by decide) ?_
      exact g_ireturn C hQ dX8_pairCopy_54 (Nat.le_refl _) (Nat.le_refl _) (by
        first
        | exact ⟨τ, _, t6, _, _, _, _, _, (fun _ _ => rfl), rfl, hM9, hK6.tr hK9, Or.inr ⟨hin, by omega, rfl, rfl, rfl, rfl, rfl⟩⟩
        | exact ⟨τ, _, t6, _, _, _, _, _, (fun _ _ => rfl), rfl, hM6, hK6, Or.inl ⟨by omega, by omega, rfl, rfl, rfl, rfl, rfl⟩⟩)
  refine g_if_ne (tgt := 15) C dX8_pairCopy_5 (by decide) (bI_r _) (fun h5 => ?_) (fun h5 => ?_)
  · refine g_iconst C dX8_pairCopy_15 ?_
    refine g_goto (tgt := 20) C dX8_pairCopy_16 (by decide) ?_
    exact J20 _ (by first | (have := bI_1 h5; exact Or.inr ⟨rfl, by omega⟩) | (have := bI_1 h12; exact Or.inr ⟨rfl, by omega⟩) | (have := bI_0 (Classical.not_not.mp h5); have := bI_0 h12; exact Or.inl ⟨rfl, by omega, by omega⟩))
  · refine g_iload_n C dX8_pairCopy_8 rfl ?_
    refine g_callS C (c_X8_isNo _ (v := into) h_into) ml_RX8_145 sm_yX8_isNo in_RX8 co_yX8_isNo hd_X8_isNo rfl ⟨by omega, by omega⟩ rfl (Nat.le_of_ble_eq_true rfl) ⟨by omega, by omega⟩ dX8_pairCopy_9 (fun v9 w9 hp9 => ?_)
    obtain ⟨rfl, hw9⟩ := hp9
    subst w9
    refine g_if_eq (tgt := 19) C dX8_pairCopy_12 (by decide) (bI_r _) (fun h12 => ?_) (fun h12 => ?_)
    · refine g_iconst C dX8_pairCopy_19 ?_
      exact J20 _ (by first | (have := bI_1 h5; exact Or.inr ⟨rfl, by omega⟩) | (have := bI_1 h12; exact Or.inr ⟨rfl, by omega⟩) | (have := bI_0 (Classical.not_not.mp h5); have := bI_0 h12; exact Or.inl ⟨rfl, by omega, by omega⟩))
    · refine g_iconst C dX8_pairCopy_15 ?_
      refine g_goto (tgt := 20) C dX8_pairCopy_16 (by decide) ?_
      exact J20 _ (by first | (have := bI_1 h5; exact Or.inr ⟨rfl, by omega⟩) | (have := bI_1 h12; exact Or.inr ⟨rfl, by omega⟩) | (have := bI_0 (Classical.not_not.mp h5); have := bI_0 h12; exact Or.inl ⟨rfl, by omega, by omega⟩))
set_option maxHeartbeats 4000000 in
set_option maxRecDepth 100000 in
theorem c_X8_order (l : Launch) {E : GE} {w : Wd} {v into z : Int} (h_v : -2147483648 ≤ v ∧ v < 2147483648) (h_into : -2147483648 ≤ into ∧ into < 2147483648) (hz : z = 0 ∨ z = 1) {τ : Nat → Nat} {m : Nat} {A : MA} {th : Int} {ba st pb le ri : Nat → Int} {sp : Nat → Nat → Int} {ct : Nat → Int} (hM : MSx τ w m A th ba st pb le ri sp ct) : Sp E l yX8_order cX8_order 4 (some .int) 3 (0) (0) [.ref m, iI v, iI into, iI z] w (fun r w' => ∃ (t ans : Int), r = some (iI ans) ∧ MSx τ w' m A (t) (ba) (st) (pb) (le) (ri) (sp) (ct) ∧ Keep τ w w' ∧ (¬ ((0 ≤ v ∧ v ≤ 2) ∧ (0 ≤ into ∧ into ≤ 2)) ∧ t = 1 ∧ ans = 0 ∨ ((0 ≤ v ∧ v ≤ 2) ∧ (0 ≤ into ∧ into ≤ 2)) ∧ t = 0 ∧ ((if z = 1 then le v.toNat else ri v.toNat) < (if z = 1 then le into.toNat else ri into.toNat) ∧ ans = -1 ∨ (if z = 1 then le v.toNat else ri v.toNat) = (if z = 1 then le into.toNat else ri into.toNat) ∧ ans = 0 ∨ (if z = 1 then le into.toNat else ri into.toNat) < (if z = 1 then le v.toNat else ri v.toNat) ∧ ans = 1))) := by
  refine sp_intro [some (.ref m), some (iI v), some (iI into), some (iI z)] rfl (Nat.le_of_ble_eq_true rfl) pn_X8 ?_
  intro X C hRm hl hnm hQ
  obtain ⟨hRf, hRl, hRc, hRs⟩ := hRm
  refine g_wf (fun hwf => ?_)
  refine g_aload_n C dX8_order_0 rfl ?_
  refine g_iload_n C dX8_order_1 rfl ?_
  refine g_callS C (c_X8_isNo _ (v := v) h_v) ml_RX8_145 sm_yX8_isNo in_RX8 co_yX8_isNo hd_X8_isNo rfl ⟨by omega, by omega⟩ rfl (Nat.le_of_ble_eq_true rfl) ⟨by omega, by omega⟩ dX8_order_2 (fun v2 w2 hp2 => ?_)
  obtain ⟨rfl, hw2⟩ := hp2
  subst w2
  have J20 : ∀ y : Int, (y = 0 ∧ (0 ≤ v ∧ v ≤ 2) ∧ (0 ≤ into ∧ into ≤ 2) ∨ y = 1 ∧ ¬ ((0 ≤ v ∧ v ≤ 2) ∧ (0 ≤ into ∧ into ≤ 2))) → G E X 4 20 [some (.ref m), some (iI v), some (iI into), some (iI z)] [iI y, .ref m] w 0 0 := by
    intro y hy
    refine g_iconst C dX8_order_20 ?_
    refine g_callV C (c_X8_start _ hM (y := y) (wh := 1) (by omega) (by omega)) (ci := 10) rfl hM.o rfl ml_RX8_149 im_yX8_start se_RX8_yX8_start in_RX8 co_yX8_start hd_X8_start rfl ⟨by omega, by omega⟩ rfl (Nat.le_of_ble_eq_true rfl) ⟨by omega, by omega⟩ dX8_order_21 (fun v21 w21 hp21 => ?_)
    obtain ⟨t6, rfl, ht6, hM6, hK6⟩ := hp21
    have hy6 : (y) = 0 ∨ (y) = 1 := (by omega)
    refine g_if_eq (tgt := 31) C dX8_order_24 (by decide) (by omega) (fun h24 => ?_) (fun h24 => ?_)
    · have hin : (0 ≤ v ∧ v ≤ 2) ∧ (0 ≤ into ∧ into ≤ 2) := by omega
      obtain ⟨V, rfl⟩ := Int.eq_ofNat_of_zero_le hin.1.1
      obtain ⟨I, rfl⟩ := Int.eq_ofNat_of_zero_le hin.2.1
      refine g_aload_n C dX8_order_31 rfl ?_
      refine g_iload_n C dX8_order_32 rfl ?_
      refine g_iload_n C dX8_order_33 rfl ?_
      refine g_callV C (c_X8_its _ hM6 (i := V) (y := z) (by omega) hz) (ci := 10) rfl hM6.o rfl ml_RX8_246 im_yX8_its se_RX8_yX8_its in_RX8 co_yX8_its hd_X8_its rfl ⟨by omega, by omega⟩ rfl (Nat.le_of_ble_eq_true rfl) ⟨by omega, by omega⟩ dX8_order_34 (fun v34 w34 hp34 => ?_)
      obtain ⟨⟨q1, rfl, tq1, r1⟩, hw34⟩ := hp34
      subst w34
      obtain ⟨n1, f1, e1, b1, c1⟩ := r1
      refine g_aload_n C dX8_order_37 rfl ?_
      refine g_iload_n C dX8_order_38 rfl ?_
      refine g_iload_n C dX8_order_39 rfl ?_
      refine g_callV C (c_X8_its _ hM6 (i := I) (y := z) (by omega) hz) (ci := 10) rfl hM6.o rfl ml_RX8_246 im_yX8_its se_RX8_yX8_its in_RX8 co_yX8_its hd_X8_its rfl ⟨by omega, by omega⟩ rfl (Nat.le_of_ble_eq_true rfl) ⟨by omega, by omega⟩ dX8_order_40 (fun v40 w40 hp40 => ?_)
      obtain ⟨⟨q2, rfl, tq2, r2⟩, hw40⟩ := hp40
      subst w40
      obtain ⟨n2, f2, e2, b2, c2⟩ := r2
      refine g_callS C (c_X8_side _ e1 e2 b1 b2 (by omega) (by omega)) ml_RX8_199 sm_yX8_side in_RX8 co_yX8_side hd_X8_side rfl ⟨by omega, by omega⟩ rfl (Nat.le_of_ble_eq_true rfl) ⟨by omega, by omega⟩ dX8_order_43 (fun v43 w43 hp43 => ?_)
      obtain ⟨⟨d, rfl, hd⟩, hw43⟩ := hp43
      subst w43
      exact g_ireturn C hQ dX8_order_46 (Nat.le_refl _) (Nat.le_refl _) (by
        first
        | exact ⟨t6, _, rfl, hM6, hK6, Or.inr ⟨hin, by omega, hd⟩⟩
        | exact ⟨t6, 0, rfl, hM6, hK6, Or.inl ⟨by omega, by omega, rfl⟩⟩)
    · refine g_iconst C dX8_order_27 ?_
      refine g_goto (tgt := 46) C dX8_order_28 (by decide) ?_
      exact g_ireturn C hQ dX8_order_46 (Nat.le_refl _) (Nat.le_refl _) (by
        first
        | exact ⟨t6, _, rfl, hM6, hK6, Or.inr ⟨hin, by omega, hd⟩⟩
        | exact ⟨t6, 0, rfl, hM6, hK6, Or.inl ⟨by omega, by omega, rfl⟩⟩)
  refine g_if_ne (tgt := 15) C dX8_order_5 (by decide) (bI_r _) (fun h5 => ?_) (fun h5 => ?_)
  · refine g_iconst C dX8_order_15 ?_
    refine g_goto (tgt := 20) C dX8_order_16 (by decide) ?_
    exact J20 _ (by first | (have := bI_1 h5; exact Or.inr ⟨rfl, by omega⟩) | (have := bI_1 h12; exact Or.inr ⟨rfl, by omega⟩) | (have := bI_0 (Classical.not_not.mp h5); have := bI_0 h12; exact Or.inl ⟨rfl, by omega, by omega⟩))
  · refine g_iload_n C dX8_order_8 rfl ?_
    refine g_callS C (c_X8_isNo _ (v := into) h_into) ml_RX8_145 sm_yX8_isNo in_RX8 co_yX8_isNo hd_X8_isNo rfl ⟨by omega, by omega⟩ rfl (Nat.le_of_ble_eq_true rfl) ⟨by omega, by omega⟩ dX8_order_9 (fun v9 w9 hp9 => ?_)
    obtain ⟨rfl, hw9⟩ := hp9
    subst w9
    refine g_if_eq (tgt := 19) C dX8_order_12 (by decide) (bI_r _) (fun h12 => ?_) (fun h12 => ?_)
    · refine g_iconst C dX8_order_19 ?_
      exact J20 _ (by first | (have := bI_1 h5; exact Or.inr ⟨rfl, by omega⟩) | (have := bI_1 h12; exact Or.inr ⟨rfl, by omega⟩) | (have := bI_0 (Classical.not_not.mp h5); have := bI_0 h12; exact Or.inl ⟨rfl, by omega, by omega⟩))
    · refine g_iconst C dX8_order_15 ?_
      refine g_goto (tgt := 20) C dX8_order_16 (by decide) ?_
      exact J20 _ (by first | (have := bI_1 h5; exact Or.inr ⟨rfl, by omega⟩) | (have := bI_1 h12; exact Or.inr ⟨rfl, by omega⟩) | (have := bI_0 (Classical.not_not.mp h5); have := bI_0 h12; exact Or.inl ⟨rfl, by omega, by omega⟩))
set_option maxHeartbeats 4000000 in
set_option maxRecDepth 100000 in
theorem c_X8_isSame (l : Launch) {E : GE} {w : Wd} {v into : Int} (h_v : -2147483648 ≤ v ∧ v < 2147483648) (h_into : -2147483648 ≤ into ∧ into < 2147483648) {τ : Nat → Nat} {m : Nat} {A : MA} {th : Int} {ba st pb le ri : Nat → Int} {sp : Nat → Nat → Int} {ct : Nat → Int} (hM : MSx τ w m A th ba st pb le ri sp ct) (hP : HPp pb le ri) : Sp E l yX8_isSame cX8_isSame 3 (some .boolean) 3 (0) (0) [.ref m, iI v, iI into] w (fun r w' => ∃ (t ans : Int), r = some (iI ans) ∧ MSx τ w' m A (t) (ba) (st) (pb) (le) (ri) (sp) (ct) ∧ Keep τ w w' ∧ (¬ ((0 ≤ v ∧ v ≤ 2) ∧ (0 ≤ into ∧ into ≤ 2)) ∧ t = 1 ∧ ans = 0 ∨ ((0 ≤ v ∧ v ≤ 2) ∧ (0 ≤ into ∧ into ≤ 2)) ∧ t = 0 ∧ ans = bI (pb v.toNat = pb into.toNat ∧ le v.toNat = le into.toNat ∧ ri v.toNat = ri into.toNat))) := by
  refine sp_intro [some (.ref m), some (iI v), some (iI into)] rfl (Nat.le_of_ble_eq_true rfl) pn_X8 ?_
  intro X C hRm hl hnm hQ
  obtain ⟨hRf, hRl, hRc, hRs⟩ := hRm
  refine g_wf (fun hwf => ?_)
  refine g_aload_n C dX8_isSame_0 rfl ?_
  refine g_iload_n C dX8_isSame_1 rfl ?_
  refine g_callS C (c_X8_isNo _ (v := v) h_v) ml_RX8_145 sm_yX8_isNo in_RX8 co_yX8_isNo hd_X8_isNo rfl ⟨by omega, by omega⟩ rfl (Nat.le_of_ble_eq_true rfl) ⟨by omega, by omega⟩ dX8_isSame_2 (fun v2 w2 hp2 => ?_)
  obtain ⟨rfl, hw2⟩ := hp2
  subst w2
  have J20 : ∀ y : Int, (y = 0 ∧ (0 ≤ v ∧ v ≤ 2) ∧ (0 ≤ into ∧ into ≤ 2) ∨ y = 1 ∧ ¬ ((0 ≤ v ∧ v ≤ 2) ∧ (0 ≤ into ∧ into ≤ 2))) → G E X 3 20 [some (.ref m), some (iI v), some (iI into)] [iI y, .ref m] w 0 0 := by
    intro y hy
    refine g_iconst C dX8_isSame_20 ?_
    refine g_callV C (c_X8_start _ hM (y := y) (wh := 1) (by omega) (by omega)) (ci := 10) rfl hM.o rfl ml_RX8_149 im_yX8_start se_RX8_yX8_start in_RX8 co_yX8_start hd_X8_start rfl ⟨by omega, by omega⟩ rfl (Nat.le_of_ble_eq_true rfl) ⟨by omega, by omega⟩ dX8_isSame_21 (fun v21 w21 hp21 => ?_)
    obtain ⟨t6, rfl, ht6, hM6, hK6⟩ := hp21
    have hy6 : (y) = 0 ∨ (y) = 1 := (by omega)
    refine g_if_ne (tgt := 73) C dX8_isSame_24 (by decide) (by omega) (fun h24 => ?_) (fun h24 => ?_)
    · refine g_iconst C dX8_isSame_73 ?_
      exact g_zreturn C hQ dX8_isSame_74 (nar01 (by omega)) (Nat.le_refl _) (Nat.le_refl _) (by
        first
        | exact ⟨t6, _, rfl, hM6, hK6, Or.inr ⟨hin, by omega, (bI_t (bI_1 h66)).symm⟩⟩
        | exact ⟨t6, _, rfl, hM6, hK6, Or.inr ⟨hin, by omega, (bI_f (bI_0 h66)).symm⟩⟩
        | exact ⟨t6, _, rfl, hM6, hK6, Or.inr ⟨hin, by omega, (bI_t (bI_1 (fun q => h66 q))).symm⟩⟩
        | exact ⟨t6, 0, rfl, hM6, hK6, Or.inl ⟨by omega, by omega, rfl⟩⟩)
    · have hin : (0 ≤ v ∧ v ≤ 2) ∧ (0 ≤ into ∧ into ≤ 2) := by omega
      obtain ⟨V, rfl⟩ := Int.eq_ofNat_of_zero_le hin.1.1
      obtain ⟨I, rfl⟩ := Int.eq_ofNat_of_zero_le hin.2.1
      obtain ⟨q1, hq1, tq1, r1⟩ := hM6.L (i := V) (by omega)
      obtain ⟨q2, hq2, tq2, r2⟩ := hM6.R (i := V) (by omega)
      obtain ⟨q3, hq3, tq3, r3⟩ := hM6.L (i := I) (by omega)
      obtain ⟨q4, hq4, tq4, r4⟩ := hM6.R (i := I) (by omega)
      have g1 := (hP V (by omega)).1.i
      have g2 := (hP I (by omega)).1.i
      refine g_aload_n C dX8_isSame_27 rfl ?_
      refine g_get (ci := 10) C rfl inTX8 3 (by decide) fl_RX8_16 rfl hM6.o rfl dX8_isSame_28 ?_
      refine g_iload_n C dX8_isSame_31 rfl ?_
      refine g_ialoadN (V) C hM6.p (by omega) (by omega) dX8_isSame_32 ?_
      refine g_aload_n C dX8_isSame_33 rfl ?_
      refine g_get (ci := 10) C rfl inTX8 4 (by decide) fl_RX8_24 rfl hM6.o rfl dX8_isSame_34 ?_
      refine g_iload_n C dX8_isSame_37 rfl ?_
      refine g_aaloadN (V) C rfl rfl hM6.l (by omega) (by omega) hq1 dX8_isSame_38 ?_
      refine g_aload_n C dX8_isSame_39 rfl ?_
      refine g_get (ci := 10) C rfl inTX8 5 (by decide) fl_RX8_28 rfl hM6.o rfl dX8_isSame_40 ?_
      refine g_iload_n C dX8_isSame_43 rfl ?_
      refine g_aaloadN (V) C rfl rfl hM6.r (by omega) (by omega) hq2 dX8_isSame_44 ?_
      refine g_aload_n C dX8_isSame_45 rfl ?_
      refine g_get (ci := 10) C rfl inTX8 3 (by decide) fl_RX8_16 rfl hM6.o rfl dX8_isSame_46 ?_
      refine g_iload_n C dX8_isSame_49 rfl ?_
      refine g_ialoadN (I) C hM6.p (by omega) (by omega) dX8_isSame_50 ?_
      refine g_aload_n C dX8_isSame_51 rfl ?_
      refine g_get (ci := 10) C rfl inTX8 4 (by decide) fl_RX8_24 rfl hM6.o rfl dX8_isSame_52 ?_
      refine g_iload_n C dX8_isSame_55 rfl ?_
      refine g_aaloadN (I) C rfl rfl hM6.l (by omega) (by omega) hq3 dX8_isSame_56 ?_
      refine g_aload_n C dX8_isSame_57 rfl ?_
      refine g_get (ci := 10) C rfl inTX8 5 (by decide) fl_RX8_28 rfl hM6.o rfl dX8_isSame_58 ?_
      refine g_iload_n C dX8_isSame_61 rfl ?_
      refine g_aaloadN (I) C rfl rfl hM6.r (by omega) (by omega) hq4 dX8_isSame_62 ?_
      refine g_callS C (c_X8_areSame _ (r1.le (by omega)) (r2.le (by omega)) (r3.le (by omega)) (r4.le (by omega)) g1 g2) ml_RX8_228 sm_yX8_areSame in_RX8 co_yX8_areSame hd_X8_areSame rfl ⟨by omega, by omega⟩ rfl (Nat.le_of_ble_eq_true rfl) ⟨by omega, by omega⟩ dX8_isSame_63 (fun v63 w63 hp63 => ?_)
      obtain ⟨rfl, hw63⟩ := hp63
      subst w63
      refine g_if_eq (tgt := 73) C dX8_isSame_66 (by decide) (bI_r _) (fun h66 => ?_) (fun h66 => ?_)
      · refine g_iconst C dX8_isSame_73 ?_
        exact g_zreturn C hQ dX8_isSame_74 (nar01 (by omega)) (Nat.le_refl _) (Nat.le_refl _) (by
          first
          | exact ⟨t6, _, rfl, hM6, hK6, Or.inr ⟨hin, by omega, (bI_t (bI_1 h66)).symm⟩⟩
          | exact ⟨t6, _, rfl, hM6, hK6, Or.inr ⟨hin, by omega, (bI_f (bI_0 h66)).symm⟩⟩
          | exact ⟨t6, _, rfl, hM6, hK6, Or.inr ⟨hin, by omega, (bI_t (bI_1 (fun q => h66 q))).symm⟩⟩
          | exact ⟨t6, 0, rfl, hM6, hK6, Or.inl ⟨by omega, by omega, rfl⟩⟩)
      · refine g_iconst C dX8_isSame_69 ?_
        refine g_goto (tgt := 74) C dX8_isSame_70 (by decide) ?_
        exact g_zreturn C hQ dX8_isSame_74 (nar01 (by omega)) (Nat.le_refl _) (Nat.le_refl _) (by
          first
          | exact ⟨t6, _, rfl, hM6, hK6, Or.inr ⟨hin, by omega, (bI_t (bI_1 h66)).symm⟩⟩
          | exact ⟨t6, _, rfl, hM6, hK6, Or.inr ⟨hin, by omega, (bI_f (bI_0 h66)).symm⟩⟩
          | exact ⟨t6, _, rfl, hM6, hK6, Or.inr ⟨hin, by omega, (bI_t (bI_1 (fun q => h66 q))).symm⟩⟩
          | exact ⟨t6, 0, rfl, hM6, hK6, Or.inl ⟨by omega, by omega, rfl⟩⟩)
  refine g_if_ne (tgt := 15) C dX8_isSame_5 (by decide) (bI_r _) (fun h5 => ?_) (fun h5 => ?_)
  · refine g_iconst C dX8_isSame_15 ?_
    refine g_goto (tgt := 20) C dX8_isSame_16 (by decide) ?_
    exact J20 _ (by first | (have := bI_1 h5; exact Or.inr ⟨rfl, by omega⟩) | (have := bI_1 h12; exact Or.inr ⟨rfl, by omega⟩) | (have := bI_0 (Classical.not_not.mp h5); have := bI_0 h12; exact Or.inl ⟨rfl, by omega, by omega⟩))
  · refine g_iload_n C dX8_isSame_8 rfl ?_
    refine g_callS C (c_X8_isNo _ (v := into) h_into) ml_RX8_145 sm_yX8_isNo in_RX8 co_yX8_isNo hd_X8_isNo rfl ⟨by omega, by omega⟩ rfl (Nat.le_of_ble_eq_true rfl) ⟨by omega, by omega⟩ dX8_isSame_9 (fun v9 w9 hp9 => ?_)
    obtain ⟨rfl, hw9⟩ := hp9
    subst w9
    refine g_if_eq (tgt := 19) C dX8_isSame_12 (by decide) (bI_r _) (fun h12 => ?_) (fun h12 => ?_)
    · refine g_iconst C dX8_isSame_19 ?_
      exact J20 _ (by first | (have := bI_1 h5; exact Or.inr ⟨rfl, by omega⟩) | (have := bI_1 h12; exact Or.inr ⟨rfl, by omega⟩) | (have := bI_0 (Classical.not_not.mp h5); have := bI_0 h12; exact Or.inl ⟨rfl, by omega, by omega⟩))
    · refine g_iconst C dX8_isSame_15 ?_
      refine g_goto (tgt := 20) C dX8_isSame_16 (by decide) ?_
      exact J20 _ (by first | (have := bI_1 h5; exact Or.inr ⟨rfl, by omega⟩) | (have := bI_1 h12; exact Or.inr ⟨rfl, by omega⟩) | (have := bI_0 (Classical.not_not.mp h5); have := bI_0 h12; exact Or.inl ⟨rfl, by omega, by omega⟩))
/-- BITS, the ones, the zeros behind -/
def bitV (z what : Int) : Int := if what = 0 then hiB (aB z) 120 + 1 else if what = 1 then onB (aB z) 120 else loB (aB z) 120
theorem hiB_ext {v : Int} {p : Nat} (h0 : 0 ≤ v) (h1 : v < 2 ^ p) : ∀ {q : Nat}, p ≤ q → hiB v q = hiB v p
  | 0, h => by rw [show p = 0 by omega]
  | q + 1, h => by
    rcases Nat.lt_or_ge p (q + 1) with a | a
    · rw [hiB_s0 (bt_big h0 h1 (by omega))]; exact hiB_ext h0 h1 (by omega)
    · rw [show p = q + 1 by omega]
theorem loB_ext {v : Int} {p : Nat} (h0 : 0 ≤ v) (h1 : v < 2 ^ p) : ∀ {q : Nat}, p ≤ q → loB v q = loB v p
  | 0, h => by rw [show p = 0 by omega]
  | q + 1, h => by
    rcases Nat.lt_or_ge p (q + 1) with a | a
    · rw [loB_s0 (bt_big h0 h1 (by omega))]; exact loB_ext h0 h1 (by omega)
    · rw [show p = q + 1 by omega]
theorem onB_ext {v : Int} {p : Nat} (h0 : 0 ≤ v) (h1 : v < 2 ^ p) : ∀ {q : Nat}, p ≤ q → onB v q = onB v p
  | 0, h => by rw [show p = 0 by omega]
  | q + 1, h => by
    rcases Nat.lt_or_ge p (q + 1) with a | a
    · rw [onB_s, bt_big h0 h1 (by omega), Int.add_zero]; exact onB_ext h0 h1 (by omega)
    · rw [show p = q + 1 by omega]
theorem bitV_of {f : Nat → Int} {n cap : Nat} {z what : Int} (h : BN f n z) (hn : n ≤ cap) (hc : cap ≤ 5 := by omega) : (if what = 0 then hiB (mg f n) (30 * (n - 1)) + 1 else if what = 1 then onB (mg f n) (30 * (n - 1)) else loB (mg f n) (30 * (n - 1))) = bitV z what := by
  have h0 := mg_nonneg h.d
  have h1 : mg f n < 2 ^ (30 * (n - 1)) := by rw [← B30_pow]; exact mg_lt h.d
  unfold bitV
  rw [← h.abs, hiB_ext h0 h1 (q := 120) (by omega), loB_ext h0 h1 (q := 120) (by omega), onB_ext h0 h1 (q := 120) (by omega)]
set_option maxHeartbeats 4000000 in
set_option maxRecDepth 100000 in
theorem c_X8_pairBits (l : Launch) {E : GE} {w : Wd} {v z what : Int} (h_v : -2147483648 ≤ v ∧ v < 2147483648) (h_what : -2147483648 ≤ what ∧ what < 2147483648) (hz : z = 0 ∨ z = 1) {τ : Nat → Nat} {m : Nat} {A : MA} {th : Int} {ba st pb le ri : Nat → Int} {sp : Nat → Nat → Int} {ct : Nat → Int} (hM : MSx τ w m A th ba st pb le ri sp ct) : Sp E l yX8_pairBits cX8_pairBits 4 (some .int) 2 (0) (0) [.ref m, iI v, iI z, iI what] w (fun r w' => ∃ (t ans : Int), r = some (iI ans) ∧ MSx τ w' m A (t) (ba) (st) (pb) (le) (ri) (sp) (ct) ∧ Keep τ w w' ∧ (¬ (0 ≤ v ∧ v ≤ 2) ∧ t = 1 ∧ ans = 0 ∨ (0 ≤ v ∧ v ≤ 2) ∧ ¬ (0 ≤ what ∧ what ≤ 2) ∧ t = 2 ∧ ans = 0 ∨ (0 ≤ v ∧ v ≤ 2) ∧ (0 ≤ what ∧ what ≤ 2) ∧ t = 0 ∧ ans = bitV (if z = 1 then le v.toNat else ri v.toNat) what)) := by
  refine sp_intro [some (.ref m), some (iI v), some (iI z), some (iI what)] rfl (Nat.le_of_ble_eq_true rfl) pn_X8 ?_
  intro X C hRm hl hnm hQ
  obtain ⟨hRf, hRl, hRc, hRs⟩ := hRm
  refine g_wf (fun hwf => ?_)
  refine g_aload_n C dX8_pairBits_0 rfl ?_
  refine g_iload_n C dX8_pairBits_1 rfl ?_
  refine g_callS C (c_X8_isNo _ (v := v) h_v) ml_RX8_145 sm_yX8_isNo in_RX8 co_yX8_isNo hd_X8_isNo rfl ⟨by omega, by omega⟩ rfl (Nat.le_of_ble_eq_true rfl) ⟨by omega, by omega⟩ dX8_pairBits_2 (fun v2 w2 hp2 => ?_)
  obtain ⟨rfl, hw2⟩ := hp2
  subst w2
  refine g_iconst C dX8_pairBits_5 ?_
  refine g_callV C (c_X8_start _ hM (y := bI (¬ (0 ≤ v ∧ v ≤ 2))) (wh := 1) (bI_01 _) (by omega)) (ci := 10) rfl hM.o rfl ml_RX8_149 im_yX8_start se_RX8_yX8_start in_RX8 co_yX8_start hd_X8_start rfl ⟨by omega, by omega⟩ rfl (Nat.le_of_ble_eq_true rfl) ⟨by omega, by omega⟩ dX8_pairBits_6 (fun v6 w6 hp6 => ?_)
  obtain ⟨t6, rfl, ht6, hM6, hK6⟩ := hp6
  have hy6 : (bI (¬ (0 ≤ v ∧ v ≤ 2))) = 0 ∨ (bI (¬ (0 ≤ v ∧ v ≤ 2))) = 1 := (bI_01 _)
  refine g_if_ne (tgt := 34) C dX8_pairBits_9 (by decide) (bI_r _) (fun h9 => ?_) (fun h9 => ?_)
  · refine g_iconst C dX8_pairBits_34 ?_
    refine g_goto (tgt := 48) C dX8_pairBits_35 (by decide) ?_
    exact g_ireturn C hQ dX8_pairBits_48 (Nat.le_refl _) (Nat.le_refl _) (by
      first
      | exact ⟨t, _, rfl, hM7, hK67, Or.inr (Or.inr ⟨hwk, by omega, by omega, by rw [bitV_of b1 c1]; rfl⟩)⟩
      | exact ⟨t, 0, rfl, hM7, hK67, Or.inr (Or.inl ⟨hwk, by have := bI_1 h31; omega, by have := bI_1 h31; omega, rfl⟩)⟩
      | exact ⟨t6, 0, rfl, hM6, hK6, Or.inl ⟨bI_1 h9, by omega, rfl⟩⟩)
  · refine g_aload_n C dX8_pairBits_12 rfl ?_
    refine g_iload_n C dX8_pairBits_13 rfl ?_
    refine g_iconst C dX8_pairBits_14 ?_
    refine g_iconst C dX8_pairBits_15 ?_
    refine g_callS C (c_X8_isIn _ (v := what) (a := 0) (b := 2) h_what (by omega) (by omega)) ml_RX8_49 sm_yX8_isIn in_RX8 co_yX8_isIn hd_X8_isIn rfl ⟨by omega, by omega⟩ rfl (Nat.le_of_ble_eq_true rfl) ⟨by omega, by omega⟩ dX8_pairBits_16 (fun v16 w16 hp16 => ?_)
    obtain ⟨rfl, hw16⟩ := hp16
    subst w16
    have J27 : ∀ y : Int, (y = 0 ∧ (0 ≤ what ∧ what ≤ 2) ∨ y = 1 ∧ ¬ (0 ≤ what ∧ what ≤ 2)) → G E X 4 27 [some (.ref m), some (iI v), some (iI z), some (iI what)] [iI y, .ref m] w6 0 0 := by
      intro y hy
      have hwk : 0 ≤ v ∧ v ≤ 2 := Classical.not_not.mp (bI_0 (Classical.not_not.mp h9))
      refine g_iconst C dX8_pairBits_27 ?_
      refine g_callV C (c_X8_refuse _ hM6 (y := y) (wh := 2) (by omega) (by omega) (by omega)) (ci := 10) rfl hM6.o rfl ml_RX8_45 im_yX8_refuse se_RX8_yX8_refuse in_RX8 co_yX8_refuse hd_X8_refuse rfl ⟨by omega, by omega⟩ rfl (Nat.le_of_ble_eq_true rfl) ⟨by omega, by omega⟩ dX8_pairBits_28 (fun v28 w28 hp28 => ?_)
      obtain ⟨t, rfl, ht, hM7, hK7⟩ := hp28
      have hy7 : (y) = 0 ∨ (y) = 1 := (by omega)
      have hK67 := hK6.tr hK7
      refine g_if_eq (tgt := 38) C dX8_pairBits_31 (by decide) (bI_r _) (fun h31 => ?_) (fun h31 => ?_)
      · have htz : ¬ (0 < t) := bI_0 h31
        obtain ⟨V, rfl⟩ := Int.eq_ofNat_of_zero_le hwk.1
        refine g_aload_n C dX8_pairBits_38 rfl ?_
        refine g_iload_n C dX8_pairBits_39 rfl ?_
        refine g_iload_n C dX8_pairBits_40 rfl ?_
        refine g_callV C (c_X8_its _ hM7 (i := V) (y := z) (by omega) hz) (ci := 10) rfl hM7.o rfl ml_RX8_246 im_yX8_its se_RX8_yX8_its in_RX8 co_yX8_its hd_X8_its rfl ⟨by omega, by omega⟩ rfl (Nat.le_of_ble_eq_true rfl) ⟨by omega, by omega⟩ dX8_pairBits_41 (fun v41 w41 hp41 => ?_)
        obtain ⟨⟨q1, rfl, tq1, r1⟩, hw41⟩ := hp41
        subst w41
        obtain ⟨n1, f1, e1, b1, c1⟩ := r1
        refine g_iload_n C dX8_pairBits_44 rfl ?_
        refine g_callS C (c_X8_bits _ e1 ⟨b1.n1, by omega⟩ b1.d (what := what) (by omega)) ml_RX8_121 sm_yX8_bits in_RX8 co_yX8_bits hd_X8_bits rfl ⟨by omega, by omega⟩ rfl (Nat.le_of_ble_eq_true rfl) ⟨by omega, by omega⟩ dX8_pairBits_45 (fun v45 w45 hp45 => ?_)
        obtain ⟨rfl, hw45⟩ := hp45
        subst w45
        exact g_ireturn C hQ dX8_pairBits_48 (Nat.le_refl _) (Nat.le_refl _) (by
          first
          | exact ⟨t, _, rfl, hM7, hK67, Or.inr (Or.inr ⟨hwk, by omega, by omega, by rw [bitV_of b1 c1]; rfl⟩)⟩
          | exact ⟨t, 0, rfl, hM7, hK67, Or.inr (Or.inl ⟨hwk, by have := bI_1 h31; omega, by have := bI_1 h31; omega, rfl⟩)⟩
          | exact ⟨t6, 0, rfl, hM6, hK6, Or.inl ⟨bI_1 h9, by omega, rfl⟩⟩)
      · refine g_iconst C dX8_pairBits_34 ?_
        refine g_goto (tgt := 48) C dX8_pairBits_35 (by decide) ?_
        exact g_ireturn C hQ dX8_pairBits_48 (Nat.le_refl _) (Nat.le_refl _) (by
          first
          | exact ⟨t, _, rfl, hM7, hK67, Or.inr (Or.inr ⟨hwk, by omega, by omega, by rw [bitV_of b1 c1]; rfl⟩)⟩
          | exact ⟨t, 0, rfl, hM7, hK67, Or.inr (Or.inl ⟨hwk, by have := bI_1 h31; omega, by have := bI_1 h31; omega, rfl⟩)⟩
          | exact ⟨t6, 0, rfl, hM6, hK6, Or.inl ⟨bI_1 h9, by omega, rfl⟩⟩)
    refine g_if_ne (tgt := 26) C dX8_pairBits_19 (by decide) (bI_r _) (fun h19 => ?_) (fun h19 => ?_)
    · refine g_iconst C dX8_pairBits_26 ?_
      exact J27 _ (by first | exact Or.inl ⟨rfl, bI_1 h19⟩ | exact Or.inr ⟨rfl, bI_0 (Classical.not_not.mp h19)⟩)
    · refine g_iconst C dX8_pairBits_22 ?_
      refine g_goto (tgt := 27) C dX8_pairBits_23 (by decide) ?_
      exact J27 _ (by first | exact Or.inl ⟨rfl, bI_1 h19⟩ | exact Or.inr ⟨rfl, bI_0 (Classical.not_not.mp h19)⟩)
/-! the least one with the norm 1 -/
def perF (b r : Int) : Nat → Nat → Nat
  | 0, k => k
  | n + 1, k => if (cf b r k).2.1 = 1 then k else perF b r n (k + 1)
theorem perF_is {b r : Int} {p : Nat} (h : isPer b r p) : ∀ {n k : Nat}, 1 ≤ k → k ≤ p → p < k + n → perF b r n k = p
  | 0, k, _, h2, h3 => by omega
  | n + 1, k, h1, h2, h3 => by
    unfold perF
    by_cases q : (cf b r k).2.1 = 1
    · rw [if_pos q]
      rcases Nat.lt_or_ge k p with a | a
      · exact absurd q (h.2.2.2 k h1 a)
      · omega
    · rw [if_neg q]
      have : k ≠ p := fun e => q (by rw [e]; exact h.2.2.1)
      exact perF_is h (by omega) (by omega) (by omega)
theorem perF_eq {b r : Int} {p : Nat} (h : isPer b r p) : perF b r 16 1 = p := perF_is h (Nat.le_refl 1) h.1 (by have := h.2.1; omega)
def leaK (p : Nat) : Nat := (if p % 2 = 0 then p else 2 * p) - 1
/-- LEFT and RIGHT of the least one -/
def leaP (b r : Int) : Int := (pq b r 1 r (leaK (perF b r 16 1))).1
def leaQ (b r : Int) : Int := (pq b r 0 1 (leaK (perF b r 16 1))).1
def leaC (b r : Int) : Bool := decide (1 < leaP b r) && decide (leaP b r < 2147483648) && decide (0 < leaQ b r) && decide (leaQ b r < 2147483648) && decide (leaP b r * leaP b r - b * (leaQ b r * leaQ b r) = 1)
theorem lea_chk : ((List.range 10).all fun r => (List.range (2 * r)).all fun t => leaC ((r * r + 1 + t : Nat) : Int) (r : Int)) = true := by decide +kernel
theorem lea_ok {b r : Int} (hb : GB b) (hr : RT b r) : 1 < leaP b r ∧ leaP b r < 2147483648 ∧ 0 < leaQ b r ∧ leaQ b r < 2147483648 ∧ leaP b r * leaP b r - b * (leaQ b r * leaQ b r) = 1 := by
  have := all_bases (P := leaC) lea_chk hb hr
  simp only [leaC, Bool.and_eq_true, decide_eq_true_eq] at this
  omega
theorem RowAt.of {w : Wd} {q n c : Nat} {f : Nat → Int} {z : Int} (h : w.2 q = some (true, eI n f)) (b : BN f n z) (hn : n ≤ c) : RowAt w q z c := ⟨n, f, h, b, hn⟩
theorem aB_neg {z : Int} : aB (-z) = aB z := by unfold aB; split <;> split <;> omega
set_option maxHeartbeats 4000000 in
set_option maxRecDepth 100000 in
theorem c_X8_put (l : Launch) {E : GE} {w : Wd} {v b x y : Int} (h_v : -2147483648 ≤ v ∧ v < 2147483648) (h_b : -2147483648 ≤ b ∧ b < 2147483648) (h_x : -2147483648 ≤ x ∧ x < 2147483648) (h_y : -2147483648 ≤ y ∧ y < 2147483648) {τ : Nat → Nat} {m : Nat} {A : MA} {th : Int} {ba st pb le ri : Nat → Int} {sp : Nat → Nat → Int} {ct : Nat → Int} (hM : MSx τ w m A th ba st pb le ri sp ct) (hP : HPp pb le ri) : Sp E l yX8_put cX8_put 5 (some .int) 4 (4) (16) [.ref m, iI v, iI b, iI x, iI y] w (fun r w' => ∃ (τ' : Nat → Nat) (A' : MA) (t : Int) (pb' le' ri' ct' : Nat → Int) (ans : Int), (∀ a, a < w.1 → τ' a = τ a) ∧ r = some (iI ans) ∧ MSx τ' w' m A' (t) (ba) (st) (pb') (le') (ri') (sp) (ct') ∧ Keep τ w w' ∧ (¬ (0 ≤ v ∧ v ≤ 2) ∧ t = 1 ∧ ans = 0 ∧ pb' = pb ∧ le' = le ∧ ri' = ri ∧ ct' = ct ∨ (0 ≤ v ∧ v ≤ 2) ∧ ¬ (GB b ∧ (-1000 ≤ x ∧ x ≤ 1000) ∧ (-1000 ≤ y ∧ y ≤ 1000)) ∧ t = 2 ∧ ans = 0 ∧ pb' = pb ∧ le' = le ∧ ri' = ri ∧ ct' = ct ∨ (0 ≤ v ∧ v ≤ 2) ∧ (GB b ∧ (-1000 ≤ x ∧ x ≤ 1000) ∧ (-1000 ≤ y ∧ y ≤ 1000)) ∧ t = 0 ∧ ans = bI (¬ (pb v.toNat = b ∧ le v.toNat = x ∧ ri v.toNat = y)) ∧ pb' = iup pb v.toNat b ∧ le' = iup le v.toNat x ∧ ri' = iup ri v.toNat y ∧ ct' = iup ct 1 (ct 1 + 1))) := by
  refine sp_intro [some (.ref m), some (iI v), some (iI b), some (iI x), some (iI y)] rfl (Nat.le_of_ble_eq_true rfl) pn_X8 ?_
  intro X C hRm hl hnm hQ
  obtain ⟨hRf, hRl, hRc, hRs⟩ := hRm
  refine g_wf (fun hwf => ?_)
  refine g_aload_n C dX8_put_0 rfl ?_
  refine g_iload_n C dX8_put_1 rfl ?_
  refine g_callS C (c_X8_isNo _ (v := v) h_v) ml_RX8_145 sm_yX8_isNo in_RX8 co_yX8_isNo hd_X8_isNo rfl ⟨by omega, by omega⟩ rfl (Nat.le_of_ble_eq_true rfl) ⟨by omega, by omega⟩ dX8_put_2 (fun v2 w2 hp2 => ?_)
  obtain ⟨rfl, hw2⟩ := hp2
  subst w2
  refine g_iconst C dX8_put_5 ?_
  refine g_callV C (c_X8_start _ hM (y := bI (¬ (0 ≤ v ∧ v ≤ 2))) (wh := 1) (bI_01 _) (by omega)) (ci := 10) rfl hM.o rfl ml_RX8_149 im_yX8_start se_RX8_yX8_start in_RX8 co_yX8_start hd_X8_start rfl ⟨by omega, by omega⟩ rfl (Nat.le_of_ble_eq_true rfl) ⟨by omega, by omega⟩ dX8_put_6 (fun v6 w6 hp6 => ?_)
  obtain ⟨t6, rfl, ht6, hM6, hK6⟩ := hp6
  have hy6 : (bI (¬ (0 ≤ v ∧ v ≤ 2))) = 0 ∨ (bI (¬ (0 ≤ v ∧ v ≤ 2))) = 1 := (bI_01 _)
  refine g_if_ne (tgt := 59) C dX8_put_9 (by decide) (bI_r _) (fun h9 => ?_) (fun h9 => ?_)
  · refine g_iconst C dX8_put_59 ?_
    exact g_ireturn C hQ dX8_put_60 (by omega) (by omega) (by
      first
      | exact ⟨τ, A, t, _, _, _, _, _, (fun _ _ => rfl), rfl, hM7, hK67, Or.inr (Or.inl ⟨hwk, by rcases hno with q | q; (have := bI_1 h56; omega); exact q.2, by have := bI_1 h56; omega, rfl, rfl, rfl, rfl, rfl⟩)⟩
      | exact ⟨τ, A, t6, _, _, _, _, _, (fun _ _ => rfl), rfl, hM6, hK6, Or.inl ⟨bI_1 h9, by omega, rfl, rfl, rfl, rfl, rfl⟩⟩)
  · refine g_aload_n C dX8_put_12 rfl ?_
    refine g_iload_n C dX8_put_13 rfl ?_
    refine g_callS C (c_X8_isNoBase _ (v := b) h_b) ml_RX8_152 sm_yX8_isNoBase in_RX8 co_yX8_isNoBase hd_X8_isNoBase rfl ⟨by omega, by omega⟩ rfl (Nat.le_of_ble_eq_true rfl) ⟨by omega, by omega⟩ dX8_put_14 (fun v14 w14 hp14 => ?_)
    obtain ⟨⟨yb, rfl, hyb⟩, hw14⟩ := hp14
    subst w14
    have hyb01 : yb = 0 ∨ yb = 1 := by rcases hyb with q | q <;> omega
    have J52 : ∀ no : Int, (no = 0 ∧ (GB b ∧ (-1000 ≤ x ∧ x ≤ 1000) ∧ (-1000 ≤ y ∧ y ≤ 1000)) ∨ no = 1 ∧ ¬ (GB b ∧ (-1000 ≤ x ∧ x ≤ 1000) ∧ (-1000 ≤ y ∧ y ≤ 1000))) → G E X 5 52 [some (.ref m), some (iI v), some (iI b), some (iI x), some (iI y)] [iI no, .ref m] w6 0 0 := by
      intro no hno
      have hwk : 0 ≤ v ∧ v ≤ 2 := Classical.not_not.mp (bI_0 (Classical.not_not.mp h9))
      refine g_iconst C dX8_put_52 ?_
      refine g_callV C (c_X8_refuse _ hM6 (y := no) (wh := 2) (by omega) (by omega) (by omega)) (ci := 10) rfl hM6.o rfl ml_RX8_45 im_yX8_refuse se_RX8_yX8_refuse in_RX8 co_yX8_refuse hd_X8_refuse rfl ⟨by omega, by omega⟩ rfl (Nat.le_of_ble_eq_true rfl) ⟨by omega, by omega⟩ dX8_put_53 (fun v53 w53 hp53 => ?_)
      obtain ⟨t, rfl, ht, hM7, hK7⟩ := hp53
      have hy7 : (no) = 0 ∨ (no) = 1 := (by omega)
      have hK67 := hK6.tr hK7
      refine g_if_eq (tgt := 61) C dX8_put_56 (by decide) (bI_r _) (fun h56 => ?_) (fun h56 => ?_)
      · have htz : ¬ (0 < t) := bI_0 h56
        have hok : (GB b ∧ (-1000 ≤ x ∧ x ≤ 1000) ∧ (-1000 ≤ y ∧ y ≤ 1000)) := by rcases hno with q | q; exact q.2; omega
        obtain ⟨V, rfl⟩ := Int.eq_ofNat_of_zero_le hwk.1
        refine g_wf (fun hwf7 => ?_)
        have p2 := (hP V (by omega)).1.i
        have hwk7 := hK67.1
        refine g_aload_n C dX8_put_61 rfl ?_
        refine g_iload_n C dX8_put_62 rfl ?_
        refine g_iload_n C dX8_put_63 rfl ?_
        refine g_iload_n C dX8_put_64 rfl ?_
        refine g_i2l C dX8_put_65 (by omega) ?_
        refine g_callS C (c_X8_of _ (v := x) (by omega)) ml_RX8_20 sm_yX8_of in_RX8 co_yX8_of hd_X8_of rfl ⟨by omega, by omega⟩ rfl (Nat.le_of_ble_eq_true rfl) ⟨by omega, by omega⟩ dX8_put_66 (fun v66 w66 hp66 => ?_)
        obtain ⟨m1, f1, rfl, e1, b1, c1, s1, x1⟩ := hp66
        refine g_iload C dX8_put_69 rfl ?_
        refine g_i2l C dX8_put_71 (by omega) ?_
        refine g_callS C (c_X8_of _ (v := y) (by omega)) ml_RX8_20 sm_yX8_of in_RX8 co_yX8_of hd_X8_of rfl ⟨by omega, by omega⟩ rfl (Nat.le_of_ble_eq_true rfl) ⟨by omega, by omega⟩ dX8_put_72 (fun v72 w72 hp72 => ?_)
        obtain ⟨m2, f2, rfl, e2, b2, c2, s2, x2⟩ := hp72
        have x12 := x1.tr x2
        have hM8 := (hM7.tag (τ' := rtag τ w53.1) hwf7 (fun a ha => rtag_lo ha)).ex x12
        have l1 := (RowAt.of e1 b1 c1).ex x2
        have l2 := RowAt.of e2 b2 c2
        refine g_callV C (c_X8_become _ hM8 (i := V) (bz := b) (by omega) p2 hok.1.i (rtag_hi (by omega)) (rtag_hi (by omega)) l1 l2) (ci := 10) rfl hM8.o rfl ml_RX8_232 im_yX8_become se_RX8_yX8_become in_RX8 co_yX8_become hd_X8_become rfl ⟨by omega, by omega⟩ rfl (Nat.le_of_ble_eq_true rfl) ⟨by omega, by omega⟩ dX8_put_75 (fun v75 w75 hp75 => ?_)
        obtain ⟨rfl, hM9, hK9⟩ := hp75
        exact g_ireturn C hQ dX8_put_78 (by omega) (by omega) ⟨_, _, t, _, _, _, _, _, fun a ha => rtag_lo (by omega), rfl, hM9, (hK67.tr (Keep.ex x12)).trT hK9 hwf (fun a ha => rtag_lo (by omega)), Or.inr (Or.inr ⟨hwk, hok, by omega, rfl, rfl, rfl, rfl, rfl⟩)⟩
      · refine g_iconst C dX8_put_59 ?_
        exact g_ireturn C hQ dX8_put_60 (by omega) (by omega) (by
          first
          | exact ⟨τ, A, t, _, _, _, _, _, (fun _ _ => rfl), rfl, hM7, hK67, Or.inr (Or.inl ⟨hwk, by rcases hno with q | q; (have := bI_1 h56; omega); exact q.2, by have := bI_1 h56; omega, rfl, rfl, rfl, rfl, rfl⟩)⟩
          | exact ⟨τ, A, t6, _, _, _, _, _, (fun _ _ => rfl), rfl, hM6, hK6, Or.inl ⟨bI_1 h9, by omega, rfl, rfl, rfl, rfl, rfl⟩⟩)
    refine g_if_ne (tgt := 47) C dX8_put_17 (by decide) (by omega) (fun h17 => ?_) (fun h17 => ?_)
    · refine g_iconst C dX8_put_47 ?_
      refine g_goto (tgt := 52) C dX8_put_48 (by decide) ?_
      exact J52 _ (by
        have hg : yb = 0 → GB b := fun e => by rcases hyb with q | q; exact q.2; omega
        have hn : yb ≠ 0 → ¬ GB b := fun e => by rcases hyb with q | q; omega; exact q.2
        first
        | exact Or.inl ⟨rfl, hg (by omega), bI_1 (fun q => h30 q), bI_1 h44⟩
        | exact Or.inr ⟨rfl, fun q => hn h17 q.1⟩
        | exact Or.inr ⟨rfl, fun q => bI_0 h30 q.2.1⟩
        | exact Or.inr ⟨rfl, fun q => bI_0 (Classical.not_not.mp h44) q.2.2⟩)
    · refine g_iload_n C dX8_put_20 rfl ?_
      refine g_sipush C dX8_put_21 (by decide) ?_
      refine g_sipush C dX8_put_24 (by decide) ?_
      refine g_callS C (c_X8_isIn _ (v := x) (a := (-1000)) (b := 1000) h_x (by omega) (by omega)) ml_RX8_49 sm_yX8_isIn in_RX8 co_yX8_isIn hd_X8_isIn rfl ⟨by omega, by omega⟩ rfl (Nat.le_of_ble_eq_true rfl) ⟨by omega, by omega⟩ dX8_put_27 (fun v27 w27 hp27 => ?_)
      obtain ⟨rfl, hw27⟩ := hp27
      subst w27
      refine g_if_eq (tgt := 47) C dX8_put_30 (by decide) (bI_r _) (fun h30 => ?_) (fun h30 => ?_)
      · refine g_iconst C dX8_put_47 ?_
        refine g_goto (tgt := 52) C dX8_put_48 (by decide) ?_
        exact J52 _ (by
          have hg : yb = 0 → GB b := fun e => by rcases hyb with q | q; exact q.2; omega
          have hn : yb ≠ 0 → ¬ GB b := fun e => by rcases hyb with q | q; omega; exact q.2
          first
          | exact Or.inl ⟨rfl, hg (by omega), bI_1 (fun q => h30 q), bI_1 h44⟩
          | exact Or.inr ⟨rfl, fun q => hn h17 q.1⟩
          | exact Or.inr ⟨rfl, fun q => bI_0 h30 q.2.1⟩
          | exact Or.inr ⟨rfl, fun q => bI_0 (Classical.not_not.mp h44) q.2.2⟩)
      · refine g_iload C dX8_put_33 rfl ?_
        refine g_sipush C dX8_put_35 (by decide) ?_
        refine g_sipush C dX8_put_38 (by decide) ?_
        refine g_callS C (c_X8_isIn _ (v := y) (a := (-1000)) (b := 1000) h_y (by omega) (by omega)) ml_RX8_49 sm_yX8_isIn in_RX8 co_yX8_isIn hd_X8_isIn rfl ⟨by omega, by omega⟩ rfl (Nat.le_of_ble_eq_true rfl) ⟨by omega, by omega⟩ dX8_put_41 (fun v41 w41 hp41 => ?_)
        obtain ⟨rfl, hw41⟩ := hp41
        subst w41
        refine g_if_ne (tgt := 51) C dX8_put_44 (by decide) (bI_r _) (fun h44 => ?_) (fun h44 => ?_)
        · refine g_iconst C dX8_put_51 ?_
          exact J52 _ (by
            have hg : yb = 0 → GB b := fun e => by rcases hyb with q | q; exact q.2; omega
            have hn : yb ≠ 0 → ¬ GB b := fun e => by rcases hyb with q | q; omega; exact q.2
            first
            | exact Or.inl ⟨rfl, hg (by omega), bI_1 (fun q => h30 q), bI_1 h44⟩
            | exact Or.inr ⟨rfl, fun q => hn h17 q.1⟩
            | exact Or.inr ⟨rfl, fun q => bI_0 h30 q.2.1⟩
            | exact Or.inr ⟨rfl, fun q => bI_0 (Classical.not_not.mp h44) q.2.2⟩)
        · refine g_iconst C dX8_put_47 ?_
          refine g_goto (tgt := 52) C dX8_put_48 (by decide) ?_
          exact J52 _ (by
            have hg : yb = 0 → GB b := fun e => by rcases hyb with q | q; exact q.2; omega
            have hn : yb ≠ 0 → ¬ GB b := fun e => by rcases hyb with q | q; omega; exact q.2
            first
            | exact Or.inl ⟨rfl, hg (by omega), bI_1 (fun q => h30 q), bI_1 h44⟩
            | exact Or.inr ⟨rfl, fun q => hn h17 q.1⟩
            | exact Or.inr ⟨rfl, fun q => bI_0 h30 q.2.1⟩
            | exact Or.inr ⟨rfl, fun q => bI_0 (Classical.not_not.mp h44) q.2.2⟩)
set_option maxHeartbeats 4000000 in
set_option maxRecDepth 100000 in
theorem c_X8_mirror (l : Launch) {E : GE} {w : Wd} {v z : Int} (h_v : -2147483648 ≤ v ∧ v < 2147483648) (hz : z = 0 ∨ z = 1) {τ : Nat → Nat} {m : Nat} {A : MA} {th : Int} {ba st pb le ri : Nat → Int} {sp : Nat → Nat → Int} {ct : Nat → Int} (hM : MSx τ w m A th ba st pb le ri sp ct) (hP : HPp pb le ri) : Sp E l yX8_mirror cX8_mirror 4 (some .int) 4 (2) (8) [.ref m, iI v, iI z] w (fun r w' => ∃ (τ' : Nat → Nat) (A' : MA) (t : Int) (pb' le' ri' ct' : Nat → Int) (ans : Int), (∀ a, a < w.1 → τ' a = τ a) ∧ r = some (iI ans) ∧ MSx τ' w' m A' (t) (ba) (st) (pb') (le') (ri') (sp) (ct') ∧ Keep τ w w' ∧ (¬ (0 ≤ v ∧ v ≤ 2) ∧ t = 1 ∧ ans = 0 ∧ pb' = pb ∧ le' = le ∧ ri' = ri ∧ ct' = ct ∨ (0 ≤ v ∧ v ≤ 2) ∧ t = 0 ∧ ∃ x : Int, (z = 1 ∧ x = - le v.toNat ∨ z = 0 ∧ x = le v.toNat) ∧ ans = bI (¬ (pb v.toNat = (pb v.toNat) ∧ le v.toNat = x ∧ ri v.toNat = (- ri v.toNat))) ∧ pb' = iup pb v.toNat (pb v.toNat) ∧ le' = iup le v.toNat x ∧ ri' = iup ri v.toNat (- ri v.toNat) ∧ ct' = iup ct 1 (ct 1 + 1))) := by
  refine sp_intro [some (.ref m), some (iI v), some (iI z), none] rfl (Nat.le_of_ble_eq_true rfl) pn_X8 ?_
  intro X C hRm hl hnm hQ
  obtain ⟨hRf, hRl, hRc, hRs⟩ := hRm
  refine g_wf (fun hwf => ?_)
  refine g_aload_n C dX8_mirror_0 rfl ?_
  refine g_iload_n C dX8_mirror_1 rfl ?_
  refine g_callS C (c_X8_isNo _ (v := v) h_v) ml_RX8_145 sm_yX8_isNo in_RX8 co_yX8_isNo hd_X8_isNo rfl ⟨by omega, by omega⟩ rfl (Nat.le_of_ble_eq_true rfl) ⟨by omega, by omega⟩ dX8_mirror_2 (fun v2 w2 hp2 => ?_)
  obtain ⟨rfl, hw2⟩ := hp2
  subst w2
  refine g_iconst C dX8_mirror_5 ?_
  refine g_callV C (c_X8_start _ hM (y := bI (¬ (0 ≤ v ∧ v ≤ 2))) (wh := 1) (bI_01 _) (by omega)) (ci := 10) rfl hM.o rfl ml_RX8_149 im_yX8_start se_RX8_yX8_start in_RX8 co_yX8_start hd_X8_start rfl ⟨by omega, by omega⟩ rfl (Nat.le_of_ble_eq_true rfl) ⟨by omega, by omega⟩ dX8_mirror_6 (fun v6 w6 hp6 => ?_)
  obtain ⟨t6, rfl, ht6, hM6, hK6⟩ := hp6
  have hy6 : (bI (¬ (0 ≤ v ∧ v ≤ 2))) = 0 ∨ (bI (¬ (0 ≤ v ∧ v ≤ 2))) = 1 := (bI_01 _)
  refine g_if_eq (tgt := 14) C dX8_mirror_9 (by decide) (bI_r _) (fun h9 => ?_) (fun h9 => ?_)
  · have hwk : 0 ≤ v ∧ v ≤ 2 := Classical.not_not.mp (bI_0 h9)
    obtain ⟨V, rfl⟩ := Int.eq_ofNat_of_zero_le hwk.1
    refine g_wf (fun hwf6 => ?_)
    obtain ⟨q1, hq1, tq1, r1⟩ := hM6.L (i := V) (by omega)
    obtain ⟨q2, hq2, tq2, r2⟩ := hM6.R (i := V) (by omega)
    have p2 := (hP V (by omega)).1.i
    have hql := r1.lt hwf6
    have hqr := r2.lt hwf6
    have hwk6 := hK6.1
    obtain ⟨n1, f1, e1, b1, c1⟩ := id r1
    obtain ⟨n2, f2, e2, b2, c2⟩ := id r2
    have sg1 := b1.s
    have sg2 := b2.s
    refine g_aload_n C dX8_mirror_14 rfl ?_
    refine g_get (ci := 10) C rfl inTX8 4 (by decide) fl_RX8_24 rfl hM6.o rfl dX8_mirror_15 ?_
    refine g_iload_n C dX8_mirror_18 rfl ?_
    refine g_aaloadN (V) C rfl rfl hM6.l (by omega) (by omega) hq1 dX8_mirror_19 ?_
    refine g_astore_n C dX8_mirror_20 (by decide) rfl ?_
    refine g_aload_n C dX8_mirror_21 rfl ?_
    refine g_iload_n C dX8_mirror_22 rfl ?_
    refine g_aload_n C dX8_mirror_23 rfl ?_
    refine g_get (ci := 10) C rfl inTX8 3 (by decide) fl_RX8_16 rfl hM6.o rfl dX8_mirror_24 ?_
    refine g_iload_n C dX8_mirror_27 rfl ?_
    refine g_ialoadN (V) C hM6.p (by omega) (by omega) dX8_mirror_28 ?_
    refine g_iload_n C dX8_mirror_29 rfl ?_
    have J45 : ∀ (u : Wd) (a : Nat) (x : Int), Ex w6 u → rtag τ w6.1 a = 9 → RowAt u a x 4 → (z = 1 ∧ x = - le V ∨ z = 0 ∧ x = le V) → G E X 4 45 [some (.ref m), some (iI (V : Int)), some (iI z), some (.ref q1)] [.ref a, iI (pb V), iI (V : Int), .ref m] u 1 4 := by
      intro u a x xu ta ra hx
      refine g_wf (fun hwfu => ?_)
      have hM7 := hM6.ex xu
      have hu1 := xu.1
      refine g_aload_n C dX8_mirror_45 rfl ?_
      refine g_get (ci := 10) C rfl inTX8 5 (by decide) fl_RX8_28 rfl hM7.o rfl dX8_mirror_46 ?_
      refine g_iload_n C dX8_mirror_49 rfl ?_
      refine g_aaloadN (V) C rfl rfl hM7.r (by omega) (by omega) hq2 dX8_mirror_50 ?_
      refine g_aload_n C dX8_mirror_51 rfl ?_
      refine g_get (ci := 10) C rfl inTX8 5 (by decide) fl_RX8_28 rfl hM7.o rfl dX8_mirror_52 ?_
      refine g_iload_n C dX8_mirror_55 rfl ?_
      refine g_aaloadN (V) C rfl rfl hM7.r (by omega) (by omega) hq2 dX8_mirror_56 ?_
      refine g_iconst C dX8_mirror_57 ?_
      refine g_ialoadN (0) C (xu.2 _ _ e2) (by omega) (by omega) dX8_mirror_58 ?_
      refine g_ineg C dX8_mirror_59 ?_
      refine g_callS C (c_X8_signed _ (c := 4) (xu.2 _ _ e2) b2 c2 (by omega) rfl) ml_RX8_77 sm_yX8_signed in_RX8 co_yX8_signed hd_X8_signed rfl ⟨by omega, by omega⟩ rfl (Nat.le_of_ble_eq_true rfl) ⟨by omega, by omega⟩ dX8_mirror_60 (fun v60 w60 hp60 => ?_)
      obtain ⟨g2, rfl, rfl, hb60⟩ := hp60
      have x2 := Ex.push hwfu (true, eI n2 g2)
      have hM8 := (hM6.tag (τ' := rtag τ w6.1) hwf6 (fun a ha => rtag_lo ha)).ex (xu.tr x2)
      have l1 := ra.ex x2
      have l2 : RowAt (wpush u (true, eI n2 g2)) u.1 (- ri V) 4 := RowAt.of wpush_s hb60 c2
      refine g_callV C (c_X8_become _ hM8 (i := V) (bz := pb V) (by omega) p2 p2 ta (rtag_hi hu1) l1 l2) (ci := 10) rfl hM8.o rfl ml_RX8_232 im_yX8_become se_RX8_yX8_become in_RX8 co_yX8_become hd_X8_become rfl ⟨by omega, by omega⟩ rfl (Nat.le_of_ble_eq_true rfl) ⟨by omega, by omega⟩ dX8_mirror_63 (fun v63 w63 hp63 => ?_)
      obtain ⟨rfl, hM9, hK9⟩ := hp63
      exact g_ireturn C hQ dX8_mirror_66 (by omega) (by omega) ⟨_, _, t6, _, _, _, _, _, fun a ha => rtag_lo (by omega), rfl, hM9, (hK6.tr (Keep.ex (xu.tr x2))).trT hK9 hwf (fun a ha => rtag_lo (by omega)), Or.inr ⟨hwk, by omega, x, hx, rfl, rfl, rfl, rfl, rfl⟩⟩
    refine g_if_eq (tgt := 44) C dX8_mirror_30 (by decide) (by omega) (fun h30 => ?_) (fun h30 => ?_)
    · refine g_aload_n C dX8_mirror_44 rfl ?_
      first | exact J45 _ _ _ (Ex.push hwf6 _) (rtag_hi (Nat.le_refl _)) (RowAt.of wpush_s hb38 c1) (Or.inl ⟨by omega, rfl⟩) | exact g_widen (by omega) (by omega) (J45 _ _ _ (Ex.rf _) ((rtag_lo hql).trans tq1) r1 (Or.inr ⟨by omega, rfl⟩))
    · refine g_aload_n C dX8_mirror_33 rfl ?_
      refine g_aload_n C dX8_mirror_34 rfl ?_
      refine g_iconst C dX8_mirror_35 ?_
      refine g_ialoadN (0) C e1 (by omega) (by omega) dX8_mirror_36 ?_
      refine g_ineg C dX8_mirror_37 ?_
      refine g_callS C (c_X8_signed _ (c := 4) e1 b1 c1 (by omega) rfl) ml_RX8_77 sm_yX8_signed in_RX8 co_yX8_signed hd_X8_signed rfl ⟨by omega, by omega⟩ rfl (Nat.le_of_ble_eq_true rfl) ⟨by omega, by omega⟩ dX8_mirror_38 (fun v38 w38 hp38 => ?_)
      obtain ⟨g1, rfl, rfl, hb38⟩ := hp38
      refine g_goto (tgt := 45) C dX8_mirror_41 (by decide) ?_
      first | exact J45 _ _ _ (Ex.push hwf6 _) (rtag_hi (Nat.le_refl _)) (RowAt.of wpush_s hb38 c1) (Or.inl ⟨by omega, rfl⟩) | exact g_widen (by omega) (by omega) (J45 _ _ _ (Ex.rf _) ((rtag_lo hql).trans tq1) r1 (Or.inr ⟨by omega, rfl⟩))
  · refine g_iconst C dX8_mirror_12 ?_
    exact g_ireturn C hQ dX8_mirror_13 (by omega) (by omega) ⟨τ, A, t6, _, _, _, _, _, (fun _ _ => rfl), rfl, hM6, hK6, Or.inl ⟨bI_1 h9, by omega, rfl, rfl, rfl, rfl, rfl⟩⟩
set_option maxHeartbeats 4000000 in
set_option maxRecDepth 100000 in
theorem c_X8_least (l : Launch) {E : GE} {w : Wd} {v b : Int} (h_v : -2147483648 ≤ v ∧ v < 2147483648) (h_b : -2147483648 ≤ b ∧ b < 2147483648) {τ : Nat → Nat} {m : Nat} {A : MA} {th : Int} {ba st pb le ri : Nat → Int} {sp : Nat → Nat → Int} {ct : Nat → Int} (hM : MSx τ w m A th ba st pb le ri sp ct) (hP : HPp pb le ri) : Sp E l yX8_least cX8_least 4 (some .int) 4 (26) (96) [.ref m, iI v, iI b] w (fun r w' => ∃ (τ' : Nat → Nat) (A' : MA) (t : Int) (pb' le' ri' ct' : Nat → Int) (ans : Int), (∀ a, a < w.1 → τ' a = τ a) ∧ r = some (iI ans) ∧ MSx τ' w' m A' (t) (ba) (st) (pb') (le') (ri') (sp) (ct') ∧ Keep τ w w' ∧ (¬ (0 ≤ v ∧ v ≤ 2) ∧ t = 1 ∧ ans = 0 ∧ pb' = pb ∧ le' = le ∧ ri' = ri ∧ ct' = ct ∨ (0 ≤ v ∧ v ≤ 2) ∧ ¬ GB b ∧ t = 2 ∧ ans = 0 ∧ pb' = pb ∧ le' = le ∧ ri' = ri ∧ ct' = ct ∨ (0 ≤ v ∧ v ≤ 2) ∧ GB b ∧ t = 0 ∧ ∃ r, RT b r ∧ ans = bI (¬ (pb v.toNat = b ∧ le v.toNat = (leaP b r) ∧ ri v.toNat = (leaQ b r))) ∧ pb' = iup pb v.toNat b ∧ le' = iup le v.toNat (leaP b r) ∧ ri' = iup ri v.toNat (leaQ b r) ∧ ct' = iup ct 1 (ct 1 + 1))) := by
  refine sp_intro [some (.ref m), some (iI v), some (iI b), none] rfl (Nat.le_of_ble_eq_true rfl) pn_X8 ?_
  intro X C hRm hl hnm hQ
  obtain ⟨hRf, hRl, hRc, hRs⟩ := hRm
  refine g_wf (fun hwf => ?_)
  refine g_aload_n C dX8_least_0 rfl ?_
  refine g_iload_n C dX8_least_1 rfl ?_
  refine g_callS C (c_X8_isNo _ (v := v) h_v) ml_RX8_145 sm_yX8_isNo in_RX8 co_yX8_isNo hd_X8_isNo rfl ⟨by omega, by omega⟩ rfl (Nat.le_of_ble_eq_true rfl) ⟨by omega, by omega⟩ dX8_least_2 (fun v2 w2 hp2 => ?_)
  obtain ⟨rfl, hw2⟩ := hp2
  subst w2
  refine g_iconst C dX8_least_5 ?_
  refine g_callV C (c_X8_start _ hM (y := bI (¬ (0 ≤ v ∧ v ≤ 2))) (wh := 1) (bI_01 _) (by omega)) (ci := 10) rfl hM.o rfl ml_RX8_149 im_yX8_start se_RX8_yX8_start in_RX8 co_yX8_start hd_X8_start rfl ⟨by omega, by omega⟩ rfl (Nat.le_of_ble_eq_true rfl) ⟨by omega, by omega⟩ dX8_least_6 (fun v6 w6 hp6 => ?_)
  obtain ⟨t6, rfl, ht6, hM6, hK6⟩ := hp6
  have hy6 : (bI (¬ (0 ≤ v ∧ v ≤ 2))) = 0 ∨ (bI (¬ (0 ≤ v ∧ v ≤ 2))) = 1 := (bI_01 _)
  refine g_if_ne (tgt := 24) C dX8_least_9 (by decide) (bI_r _) (fun h9 => ?_) (fun h9 => ?_)
  · refine g_iconst C dX8_least_24 ?_
    exact g_ireturn C hQ dX8_least_25 (by omega) (by omega) (by
      first
      | exact ⟨τ, A, t, _, _, _, _, _, (fun _ _ => rfl), rfl, hM7, hK67, Or.inr (Or.inl ⟨hwk, by rcases hyb with q | q; (have := bI_1 h21; omega); exact q.2, by have := bI_1 h21; omega, rfl, rfl, rfl, rfl, rfl⟩)⟩
      | exact ⟨τ, A, t6, _, _, _, _, _, (fun _ _ => rfl), rfl, hM6, hK6, Or.inl ⟨bI_1 h9, by omega, rfl, rfl, rfl, rfl, rfl⟩⟩)
  · refine g_aload_n C dX8_least_12 rfl ?_
    refine g_iload_n C dX8_least_13 rfl ?_
    refine g_callS C (c_X8_isNoBase _ (v := b) h_b) ml_RX8_152 sm_yX8_isNoBase in_RX8 co_yX8_isNoBase hd_X8_isNoBase rfl ⟨by omega, by omega⟩ rfl (Nat.le_of_ble_eq_true rfl) ⟨by omega, by omega⟩ dX8_least_14 (fun v14 w14 hp14 => ?_)
    obtain ⟨⟨yb, rfl, hyb⟩, hw14⟩ := hp14
    subst w14
    have hyb01 : yb = 0 ∨ yb = 1 := by rcases hyb with q | q <;> omega
    have hwk : 0 ≤ v ∧ v ≤ 2 := Classical.not_not.mp (bI_0 (Classical.not_not.mp h9))
    refine g_iconst C dX8_least_17 ?_
    refine g_callV C (c_X8_refuse _ hM6 (y := yb) (wh := 2) (by omega) (by omega) (by omega)) (ci := 10) rfl hM6.o rfl ml_RX8_45 im_yX8_refuse se_RX8_yX8_refuse in_RX8 co_yX8_refuse hd_X8_refuse rfl ⟨by omega, by omega⟩ rfl (Nat.le_of_ble_eq_true rfl) ⟨by omega, by omega⟩ dX8_least_18 (fun v18 w18 hp18 => ?_)
    obtain ⟨t, rfl, ht, hM7, hK7⟩ := hp18
    have hy7 : (yb) = 0 ∨ (yb) = 1 := (by omega)
    have hK67 := hK6.tr hK7
    refine g_if_eq (tgt := 26) C dX8_least_21 (by decide) (bI_r _) (fun h21 => ?_) (fun h21 => ?_)
    · have htz : ¬ (0 < t) := bI_0 h21
      have hg : GB b := by rcases hyb with q | q; exact q.2; omega
      obtain ⟨V, rfl⟩ := Int.eq_ofNat_of_zero_le hwk.1
      obtain ⟨r, hr⟩ := RT_ex hg
      refine g_wf (fun hwf7 => ?_)
      have p2 := (hP V (by omega)).1.i
      have hwk7 := hK67.1
      have lo := lea_ok hg hr
      refine g_iload_n C dX8_least_26 rfl ?_
      refine g_callS C (c_X8_leastOf _ (b := b) (r := r) hg hr) ml_RX8_225 sm_yX8_leastOf in_RX8 co_yX8_leastOf hd_X8_leastOf rfl ⟨by omega, by omega⟩ rfl (Nat.le_of_ble_eq_true rfl) ⟨by omega, by omega⟩ dX8_least_27 (fun v27 w27 hp27 => ?_)
      obtain ⟨q, p, rfl, hp, hR, x1, hq⟩ := hp27
      have ep := perF_eq hp
      obtain ⟨R, a0, a1, a2, a3, hR0, k0, k1, k2, k3, l0, l1, l2, l3, lo0, lo1, lo2, lo3⟩ := hR
      have l0' : RowAt w27 a0 (leaP b r) 4 := RowAt.short (by unfold leaP leaK; rw [ep]; exact l0) (by rw [show LGN = (1208925819614629174706176 : Int) from rfl]; unfold aB; split <;> omega)
      have l1' : RowAt w27 a1 (leaQ b r) 4 := RowAt.short (by unfold leaQ leaK; rw [ep]; exact l1) (by rw [show LGN = (1208925819614629174706176 : Int) from rfl]; unfold aB; split <;> omega)
      have hM8 := (hM7.tag (τ' := rtag τ w18.1) hwf7 (fun a ha => rtag_lo ha)).ex x1
      refine g_astore_n C dX8_least_30 (by decide) rfl ?_
      refine g_aload_n C dX8_least_31 rfl ?_
      refine g_iload_n C dX8_least_32 rfl ?_
      refine g_iload_n C dX8_least_33 rfl ?_
      refine g_aload_n C dX8_least_34 rfl ?_
      refine g_iconst C dX8_least_35 ?_
      refine g_aaloadN (0) C rfl rfl hR0 (by omega) (by omega) k0 dX8_least_36 ?_
      refine g_aload_n C dX8_least_37 rfl ?_
      refine g_iconst C dX8_least_38 ?_
      refine g_aaloadN (1) C rfl rfl hR0 (by omega) (by omega) k1 dX8_least_39 ?_
      refine g_callV C (c_X8_become _ hM8 (i := V) (bz := b) (by omega) p2 hg.i (rtag_hi lo0) (rtag_hi lo1) l0' l1') (ci := 10) rfl hM8.o rfl ml_RX8_232 im_yX8_become se_RX8_yX8_become in_RX8 co_yX8_become hd_X8_become rfl ⟨by omega, by omega⟩ rfl (Nat.le_of_ble_eq_true rfl) ⟨by omega, by omega⟩ dX8_least_40 (fun v40 w40 hp40 => ?_)
      obtain ⟨rfl, hM9, hK9⟩ := hp40
      exact g_ireturn C hQ dX8_least_43 (by omega) (by omega) ⟨_, _, t, _, _, _, _, _, fun a ha => rtag_lo (by omega), rfl, hM9, (hK67.tr (Keep.ex x1)).trT hK9 hwf (fun a ha => rtag_lo (by omega)), Or.inr (Or.inr ⟨hwk, hg, by omega, r, hr, rfl, rfl, rfl, rfl, rfl⟩)⟩
    · refine g_iconst C dX8_least_24 ?_
      exact g_ireturn C hQ dX8_least_25 (by omega) (by omega) (by
        first
        | exact ⟨τ, A, t, _, _, _, _, _, (fun _ _ => rfl), rfl, hM7, hK67, Or.inr (Or.inl ⟨hwk, by rcases hyb with q | q; (have := bI_1 h21; omega); exact q.2, by have := bI_1 h21; omega, rfl, rfl, rfl, rfl, rfl⟩)⟩
        | exact ⟨τ, A, t6, _, _, _, _, _, (fun _ _ => rfl), rfl, hM6, hK6, Or.inl ⟨bI_1 h9, by omega, rfl, rfl, rfl, rfl, rfl⟩⟩)
theorem Ex.setnew {w u : Wd} (h : Ex w u) (hw : wF w) {a : Nat} (ha : w.1 ≤ a) (e : WdE) : Ex w (wset u a e) := ⟨h.1, fun b x hb => by rw [wset_n (by have := hw b x hb; omega)]; exact h.2 b x hb⟩
theorem RowAt.row {w : Wd} {q c : Nat} {z : Int} (h : RowAt w q z c) : ∃ n f, w.2 q = some (true, eI n f) ∧ BN f n z ∧ n ≤ c := h
set_option maxHeartbeats 4000000 in
set_option maxRecDepth 100000 in
theorem c_X8_product (l : Launch) {E : GE} {w : Wd} {b zx zy zu zv : Int} {x y u v c1 : Nat} (hb : 0 ≤ b ∧ b ≤ 999) (rx : RowAt w x zx c1) (ry : RowAt w y zy c1) (ru : RowAt w u zu 4) (rv : RowAt w v zv 4) (hc : 4 ≤ c1 ∧ c1 ≤ 150) : Sp E l yX8_product cX8_product 5 (some (.array (.array .int))) 3 (17) (14 * c1 + 86) [iI b, .ref x, .ref y, .ref u, .ref v] w (fun r w' => ∃ (q : Nat) (R : Nat → Option Nat) (a0 a1 : Nat), r = some (.ref q) ∧ w'.2 q = some (true, eR 2 2 R) ∧ R 0 = some a0 ∧ R 1 = some a1 ∧ RowAt w' a0 (zx * zu + b * (zy * zv)) (c1 + 9) ∧ RowAt w' a1 (zx * zv + zy * zu) (c1 + 9) ∧ w.1 ≤ a0 ∧ w.1 ≤ a1 ∧ Ex w w') := by
  refine sp_intro [some (iI b), some (.ref x), some (.ref y), some (.ref u), some (.ref v)] rfl (Nat.le_of_ble_eq_true rfl) pn_X8 ?_
  intro X C hRm hl hnm hQ
  obtain ⟨hRf, hRl, hRc, hRs⟩ := hRm
  refine g_wf (fun hwf => ?_)
  obtain ⟨n1, f1, e1, b1, d1⟩ := id rx
  obtain ⟨n2, f2, e2, b2, d2⟩ := id ry
  obtain ⟨n3, f3, e3, b3, d3⟩ := id ru
  obtain ⟨n4, f4, e4, b4, d4⟩ := id rv
  have x0 := Ex.push hwf (true, eR 2 2 (fun _ => none))
  have hr0 : (wpush w (true, eR 2 2 (fun _ => none))).2 w.1 = some (true, eR 2 2 (fun _ => none)) := wpush_s
  have z0 : (wpush w (true, eR 2 2 (fun _ => none))).1 = w.1 + 1 := rfl
  refine g_iconst C dX8_product_0 ?_
  refine g_anewI C kl_RX8_19 (N := 2) rfl (by omega) (by omega) dX8_product_1 ?_
  refine g_dup C dX8_product_4 rfl ?_
  refine g_iconst C dX8_product_5 ?_
  refine g_aload_n C dX8_product_6 rfl ?_
  refine g_aload_n C dX8_product_7 rfl ?_
  refine g_callS C (c_X8_times _ (c := c1 + 4) (x0.2 _ _ e1) (x0.2 _ _ e3) b1 b3 (by omega) (by omega)) ml_RX8_124 sm_yX8_times in_RX8 co_yX8_times hd_X8_times rfl ⟨by omega, by omega⟩ rfl (Nat.le_of_ble_eq_true rfl) ⟨by omega, by omega⟩ dX8_product_8 (fun v8 w8 hp8 => ?_)
  obtain ⟨q8, m8, k8, rfl, h8, hb8, hm8, hx8, hq8⟩ := hp8
  have x8 := x0.tr hx8
  have g8 := hx8.1
  have l8 : w.1 + 1 ≤ q8 := by rcases hq8 with q | q; omega; simp at q
  refine g_iload_n C dX8_product_11 rfl ?_
  refine g_i2l C dX8_product_12 (by omega) ?_
  refine g_callS C (c_X8_of _ (v := b) (by omega)) ml_RX8_20 sm_yX8_of in_RX8 co_yX8_of hd_X8_of rfl ⟨by omega, by omega⟩ rfl (Nat.le_of_ble_eq_true rfl) ⟨by omega, by omega⟩ dX8_product_13 (fun v13 w13 hp13 => ?_)
  obtain ⟨m13, k13, rfl, h13, hb13, hm13, s13, hx13⟩ := hp13
  have x13 := x8.tr hx13
  have g13 := hx13.1
  refine g_aload_n C dX8_product_16 rfl ?_
  refine g_aload C dX8_product_17 rfl ?_
  refine g_callS C (c_X8_times _ (c := c1 + 4) (x13.2 _ _ e2) (x13.2 _ _ e4) b2 b4 (by omega) (by omega)) ml_RX8_124 sm_yX8_times in_RX8 co_yX8_times hd_X8_times rfl ⟨by omega, by omega⟩ rfl (Nat.le_of_ble_eq_true rfl) ⟨by omega, by omega⟩ dX8_product_19 (fun v19 w19 hp19 => ?_)
  obtain ⟨q19, m19, k19, rfl, h19, hb19, hm19, hx19, hq19⟩ := hp19
  have x19 := x13.tr hx19
  have g19 := hx19.1
  have l19 : w.1 + 1 ≤ q19 := by rcases hq19 with q | q; omega; simp at q
  refine g_callS C (c_X8_times _ (c := c1 + 8) (hx19.2 _ _ h13) h19 hb13 hb19 (by omega) (by omega)) ml_RX8_124 sm_yX8_times in_RX8 co_yX8_times hd_X8_times rfl ⟨by omega, by omega⟩ rfl (Nat.le_of_ble_eq_true rfl) ⟨by omega, by omega⟩ dX8_product_22 (fun v22 w22 hp22 => ?_)
  obtain ⟨q22, m22, k22, rfl, h22, hb22, hm22, hx22, hq22⟩ := hp22
  have x22 := x19.tr hx22
  have g22 := hx22.1
  have l22 : w.1 + 1 ≤ q22 := by rcases hq22 with q | q; omega; simp at q
  refine g_callS C (c_X8_plus _ (c := c1 + 8) (hx22.2 _ _ (hx19.2 _ _ (hx13.2 _ _ h8))) h22 hb8 hb22 (by omega) (by omega) (by omega)) ml_RX8_81 sm_yX8_plus in_RX8 co_yX8_plus hd_X8_plus rfl ⟨by omega, by omega⟩ rfl (Nat.le_of_ble_eq_true rfl) ⟨by omega, by omega⟩ dX8_product_25 (fun v25 w25 hp25 => ?_)
  obtain ⟨q25, m25, k25, rfl, h25, hb25, hm25, hx25, hq25⟩ := hp25
  have x25 := x22.tr hx25
  have g25 := hx25.1
  have l25 : w.1 + 1 ≤ q25 := by
    rcases hq25 with q | q
    · omega
    · simp only [List.mem_cons, List.not_mem_nil, or_false] at q
      rcases q with q | q <;> omega
  have r25 := hx25.2 _ _ (hx22.2 _ _ (hx19.2 _ _ (hx13.2 _ _ (hx8.2 _ _ hr0))))
  refine g_aastoreI C 0 r25 h25 rfl (by omega) dX8_product_28 ?_
  have y28 : Ex w (wset w25 w.1 (true, eR 2 2 (rup (fun _ => none) 0 (some q25)))) := x25.setnew hwf (Nat.le_refl _) _
  have s28 : (wset w25 w.1 (true, eR 2 2 (rup (fun _ => none) 0 (some q25)))).2 w.1 = some (true, eR 2 2 (rup (fun _ => none) 0 (some q25))) := wset_s
  have a28 : RowAt (wset w25 w.1 (true, eR 2 2 (rup (fun _ => none) 0 (some q25)))) q25 (zx * zu + b * (zy * zv)) (c1 + 9) := (RowAt.of h25 hb25 hm25).keep (wset_n (by omega))
  have z28 : (wset w25 w.1 (true, eR 2 2 (rup (fun _ => none) 0 (some q25)))).1 = w25.1 := rfl
  generalize wset w25 w.1 (true, eR 2 2 (rup (fun _ => none) 0 (some q25))) = u0 at y28 s28 a28 z28 ⊢
  refine g_dup C dX8_product_29 rfl ?_
  refine g_iconst C dX8_product_30 ?_
  refine g_aload_n C dX8_product_31 rfl ?_
  refine g_aload C dX8_product_32 rfl ?_
  refine g_callS C (c_X8_times _ (c := c1 + 4) (y28.2 _ _ e1) (y28.2 _ _ e4) b1 b4 (by omega) (by omega)) ml_RX8_124 sm_yX8_times in_RX8 co_yX8_times hd_X8_times rfl ⟨by omega, by omega⟩ rfl (Nat.le_of_ble_eq_true rfl) ⟨by omega, by omega⟩ dX8_product_34 (fun v34 w34 hp34 => ?_)
  obtain ⟨q34, m34, k34, rfl, h34, hb34, hm34, hx34, hq34⟩ := hp34
  have x34 := y28.tr hx34
  have g34 := hx34.1
  have l34 : w.1 + 1 ≤ q34 := by rcases hq34 with q | q; omega; simp at q
  refine g_aload_n C dX8_product_37 rfl ?_
  refine g_aload_n C dX8_product_38 rfl ?_
  refine g_callS C (c_X8_times _ (c := c1 + 4) (x34.2 _ _ e2) (x34.2 _ _ e3) b2 b3 (by omega) (by omega)) ml_RX8_124 sm_yX8_times in_RX8 co_yX8_times hd_X8_times rfl ⟨by omega, by omega⟩ rfl (Nat.le_of_ble_eq_true rfl) ⟨by omega, by omega⟩ dX8_product_39 (fun v39 w39 hp39 => ?_)
  obtain ⟨q39, m39, k39, rfl, h39, hb39, hm39, hx39, hq39⟩ := hp39
  have x39 := x34.tr hx39
  have g39 := hx39.1
  have l39 : w.1 + 1 ≤ q39 := by rcases hq39 with q | q; omega; simp at q
  refine g_callS C (c_X8_plus _ (c := c1 + 4) (hx39.2 _ _ h34) h39 hb34 hb39 (by omega) (by omega) (by omega)) ml_RX8_81 sm_yX8_plus in_RX8 co_yX8_plus hd_X8_plus rfl ⟨by omega, by omega⟩ rfl (Nat.le_of_ble_eq_true rfl) ⟨by omega, by omega⟩ dX8_product_42 (fun v42 w42 hp42 => ?_)
  obtain ⟨q42, m42, k42, rfl, h42, hb42, hm42, hx42, hq42⟩ := hp42
  have x42 := x39.tr hx42
  have g42 := hx42.1
  have l42 : w.1 + 1 ≤ q42 := by
    rcases hq42 with q | q
    · omega
    · simp only [List.mem_cons, List.not_mem_nil, or_false] at q
      rcases q with q | q <;> omega
  have x342 := hx34.tr (hx39.tr hx42)
  refine g_aastoreI C 1 (x342.2 _ _ s28) h42 rfl (by omega) dX8_product_45 ?_
  exact g_areturn C (Or.inr ⟨_, rfl⟩) hQ (Or.inr ⟨_, rfl⟩) dX8_product_46 (by omega) (by omega) ⟨w.1, _, q25, q42, rfl, wset_s, by rw [rup_n (by omega), rup_s], rup_s, (a28.ex x342).keep (wset_n (by omega)), (RowAt.of h42 hb42 (by omega)).keep (wset_n (by omega)), by omega, by omega, x42.setnew hwf (Nat.le_refl _) _⟩
theorem g_astore_nN {E X own cc nL ret pc L st w k n} {q : Fin 4} (C : CX E X own cc nL ret) (d : decode cc pc = .ok (.astore_n q, 1)) (hn : (q : Nat) < nL) (ho : ok1 L q = true) (kk : G E X nL (pc + 1) (s1 L q .null) st w k n) : G E X nL pc L (.null :: st) w k n :=
  fun H locs ls h1 h2 h3 => lv_astore_nN C.ex C.co d rfl h3.has hn rfl (fun ls' h' => kk H locs ls' h1 h2 (gL.st1 ho h'))
theorem g_astoreNl {E X own cc nL ret pc L st w k n} {q : Nat} (C : CX E X own cc nL ret) (d : decode cc pc = .ok (.astore q, 2)) (hn : q < nL) (ho : ok1 L q = true) (kk : G E X nL (pc + 2) (s1 L q .null) st w k n) : G E X nL pc L (.null :: st) w k n :=
  fun H locs ls h1 h2 h3 => lv_astoreN C.ex C.co d h3.has hn rfl (fun ls' h' => kk H locs ls' h1 h2 (gL.st1 ho h'))
theorem g_ifnonnull {E X own cc nL ret pc L st w k n} {x : Nat} {off : Int} {tgt : Nat} (C : CX E X own cc nL ret) (d : decode cc pc = .ok (.ifnonnull off, 3)) (ht : (pc : Int) + off = (tgt : Int)) (kk : G E X nL tgt L st w k n) : G E X nL pc L (.ref x :: st) w k n :=
  fun H locs ls h1 h2 h3 => lv_ifnonnull C.ex C.co d ht (kk H locs ls h1 h2 h3)
theorem g_ifnull {E X own cc nL ret pc L st w k n} {x : Nat} {off : Int} (C : CX E X own cc nL ret) (d : decode cc pc = .ok (.ifnull off, 3)) (kk : G E X nL (pc + 3) L st w k n) : G E X nL pc L (.ref x :: st) w k n :=
  fun H locs ls h1 h2 h3 => lv_ifnull C.ex C.co d (kk H locs ls h1 h2 h3)
theorem g_ifnullN {E X own cc nL ret pc L st w k n} {off : Int} {tgt : Nat} (C : CX E X own cc nL ret) (d : decode cc pc = .ok (.ifnull off, 3)) (ht : (pc : Int) + off = (tgt : Int)) (kk : G E X nL tgt L st w k n) : G E X nL pc L (.null :: st) w k n :=
  fun H locs ls h1 h2 h3 => lv_ifnullN C.ex C.co d ht (kk H locs ls h1 h2 h3)
theorem g_ifnonnullN {E X own cc nL ret pc L st w k n} {off : Int} (C : CX E X own cc nL ret) (d : decode cc pc = .ok (.ifnonnull off, 3)) (kk : G E X nL (pc + 3) L st w k n) : G E X nL pc L (.null :: st) w k n :=
  fun H locs ls h1 h2 h3 => lv_ifnonnullN C.ex C.co d (kk H locs ls h1 h2 h3)
set_option maxHeartbeats 4000000 in
set_option maxRecDepth 100000 in
theorem c_X8_take (l : Launch) {E : GE} {w : Wd} {v into : Int} (h_v : -2147483648 ≤ v ∧ v < 2147483648) (h_into : -2147483648 ≤ into ∧ into < 2147483648) {τ : Nat → Nat} {m : Nat} {A : MA} {th : Int} {ba st pb le ri : Nat → Int} {sp : Nat → Nat → Int} {ct : Nat → Int} (hM : MSx τ w m A th ba st pb le ri sp ct) (hP : HPp pb le ri) (hB : ∀ i, i < 3 → GB (ba i)) (hS : ∀ i, i < 3 → 0 ≤ st i ∧ st i ≤ 24) : Sp E l yX8_take cX8_take 4 (some .int) 4 (10) (48) [.ref m, iI v, iI into] w (fun r w' => ∃ (τ' : Nat → Nat) (A' : MA) (t : Int) (pb' le' ri' ct' : Nat → Int) (ans : Int), (∀ a, a < w.1 → τ' a = τ a) ∧ r = some (iI ans) ∧ MSx τ' w' m A' (t) (ba) (st) (pb') (le') (ri') (sp) (ct') ∧ Keep τ w w' ∧ (¬ ((0 ≤ v ∧ v ≤ 2) ∧ (0 ≤ into ∧ into ≤ 2)) ∧ t = 1 ∧ ans = 0 ∧ pb' = pb ∧ le' = le ∧ ri' = ri ∧ ct' = ct ∨ ((0 ≤ v ∧ v ≤ 2) ∧ (0 ≤ into ∧ into ≤ 2)) ∧ t = 0 ∧ ∃ r, RT (ba v.toNat) r ∧ ((LGN ≤ aB (pq (ba v.toNat) r 1 r (st v.toNat).toNat).1 ∨ LGN ≤ aB (pq (ba v.toNat) r 0 1 (st v.toNat).toNat).1) ∧ ans = -9 ∧ pb' = pb ∧ le' = le ∧ ri' = ri ∧ ct' = iup ct 3 (ct 3 + 1) ∨ ¬ (LGN ≤ aB (pq (ba v.toNat) r 1 r (st v.toNat).toNat).1 ∨ LGN ≤ aB (pq (ba v.toNat) r 0 1 (st v.toNat).toNat).1) ∧ ans = bI (¬ (pb into.toNat = (ba v.toNat) ∧ le into.toNat = (pq (ba v.toNat) r 1 r (st v.toNat).toNat).1 ∧ ri into.toNat = (pq (ba v.toNat) r 0 1 (st v.toNat).toNat).1)) ∧ pb' = iup pb into.toNat (ba v.toNat) ∧ le' = iup le into.toNat (pq (ba v.toNat) r 1 r (st v.toNat).toNat).1 ∧ ri' = iup ri into.toNat (pq (ba v.toNat) r 0 1 (st v.toNat).toNat).1 ∧ ct' = iup ct 1 (ct 1 + 1)))) := by
  refine sp_intro [some (.ref m), some (iI v), some (iI into), none] rfl (Nat.le_of_ble_eq_true rfl) pn_X8 ?_
  intro X C hRm hl hnm hQ
  obtain ⟨hRf, hRl, hRc, hRs⟩ := hRm
  refine g_wf (fun hwf => ?_)
  refine g_aload_n C dX8_take_0 rfl ?_
  refine g_iload_n C dX8_take_1 rfl ?_
  refine g_callS C (c_X8_isNo _ (v := v) h_v) ml_RX8_145 sm_yX8_isNo in_RX8 co_yX8_isNo hd_X8_isNo rfl ⟨by omega, by omega⟩ rfl (Nat.le_of_ble_eq_true rfl) ⟨by omega, by omega⟩ dX8_take_2 (fun v2 w2 hp2 => ?_)
  obtain ⟨rfl, hw2⟩ := hp2
  subst w2
  have J20 : ∀ y : Int, (y = 0 ∧ (0 ≤ v ∧ v ≤ 2) ∧ (0 ≤ into ∧ into ≤ 2) ∨ y = 1 ∧ ¬ ((0 ≤ v ∧ v ≤ 2) ∧ (0 ≤ into ∧ into ≤ 2))) → G E X 4 20 [some (.ref m), some (iI v), some (iI into), none] [iI y, .ref m] w 0 0 := by
    intro y hy
    refine g_iconst C dX8_take_20 ?_
    refine g_callV C (c_X8_start _ hM (y := y) (wh := 1) (by omega) (by omega)) (ci := 10) rfl hM.o rfl ml_RX8_149 im_yX8_start se_RX8_yX8_start in_RX8 co_yX8_start hd_X8_start rfl ⟨by omega, by omega⟩ rfl (Nat.le_of_ble_eq_true rfl) ⟨by omega, by omega⟩ dX8_take_21 (fun v21 w21 hp21 => ?_)
    obtain ⟨t6, rfl, ht6, hM6, hK6⟩ := hp21
    have hy6 : (y) = 0 ∨ (y) = 1 := (by omega)
    refine g_if_eq (tgt := 29) C dX8_take_24 (by decide) (by omega) (fun h24 => ?_) (fun h24 => ?_)
    · have hin : ((0 ≤ v ∧ v ≤ 2) ∧ (0 ≤ into ∧ into ≤ 2)) := by omega
      obtain ⟨V, rfl⟩ := Int.eq_ofNat_of_zero_le hin.1.1
      obtain ⟨I, rfl⟩ := Int.eq_ofNat_of_zero_le hin.2.1
      have hg := hB V (by omega)
      obtain ⟨r, hr⟩ := RT_ex hg
      refine g_wf (fun hwf6 => ?_)
      have p2 := (hP I (by omega)).1.i
      have hwk6 := hK6.1
      refine g_aload_n C dX8_take_29 rfl ?_
      refine g_iload_n C dX8_take_30 rfl ?_
      refine g_callV C (c_X8_at _ hM6 (i := V) (r := r) (by omega) hg hr (hS V (by omega))) (ci := 10) rfl hM6.o rfl ml_RX8_167 im_yX8_at se_RX8_yX8_at in_RX8 co_yX8_at hd_X8_at rfl ⟨by omega, by omega⟩ rfl (Nat.le_of_ble_eq_true rfl) ⟨by omega, by omega⟩ dX8_take_31 (fun v31 w31 hp31 => ?_)
      obtain ⟨q, rfl, hR, x1, hq⟩ := hp31
      obtain ⟨R, a0, a1, a2, a3, hR0, k0, k1, k2, k3, l0, l1, l2, l3, lo0, lo1, lo2, lo3⟩ := hR
      obtain ⟨n0, f0, e0, b0, d0⟩ := id l0
      obtain ⟨n1, f1, e1, b1, d1⟩ := id l1
      have hM7 := hM6.ex x1
      have hM8 := (hM6.tag (τ' := rtag τ w21.1) hwf6 (fun a ha => rtag_lo ha)).ex x1
      have hK7 := hK6.tr (Keep.ex x1)
      refine g_astore_n C dX8_take_34 (by decide) rfl ?_
      refine g_aload_n C dX8_take_35 rfl ?_
      refine g_iconst C dX8_take_36 ?_
      refine g_aaloadN (0) C rfl rfl hR0 (by omega) (by omega) k0 dX8_take_37 ?_
      refine g_callS C (c_X8_isLong _ e0 ⟨b0.n1, by omega⟩ b0.d) ml_RX8_236 sm_yX8_isLong in_RX8 co_yX8_isLong hd_X8_isLong rfl ⟨by omega, by omega⟩ rfl (Nat.le_of_ble_eq_true rfl) ⟨by omega, by omega⟩ dX8_take_38 (fun v38 w38 hp38 => ?_)
      obtain ⟨rfl, hw38⟩ := hp38
      subst w38
      rw [b0.abs]
      refine g_if_ne (tgt := 53) C dX8_take_41 (by decide) (bI_r _) (fun h41 => ?_) (fun h41 => ?_)
      · refine g_aload_n C dX8_take_53 rfl ?_
        refine g_callV C (c_X8_cannot _ hM7) (ci := 10) rfl hM7.o rfl ml_RX8_158 im_yX8_cannot se_RX8_yX8_cannot in_RX8 co_yX8_cannot hd_X8_cannot rfl ⟨by omega, by omega⟩ rfl (Nat.le_of_ble_eq_true rfl) ⟨by omega, by omega⟩ dX8_take_54 (fun v54 w54 hp54 => ?_)
        obtain ⟨rfl, hM9, hK9⟩ := hp54
        refine g_goto (tgt := 77) C dX8_take_57 (by decide) ?_
        exact g_ireturn C hQ dX8_take_77 (by omega) (by omega) (by
          first
          | exact ⟨_, _, t6, _, _, _, _, _, fun a ha => rtag_lo (by omega), rfl, hM9, hK7.trT hK9 hwf (fun a ha => rtag_lo (by omega)), Or.inr ⟨hin, by omega, r, hr, Or.inr ⟨fun q => q.elim (bI_0 (Classical.not_not.mp h41)) (bI_0 h50), rfl, rfl, rfl, rfl, rfl⟩⟩⟩
          | exact ⟨τ, A, t6, _, _, _, _, _, (fun _ _ => rfl), rfl, hM9, hK7.tr hK9, Or.inr ⟨hin, by omega, r, hr, Or.inl ⟨by first | exact Or.inl (bI_1 h41) | exact Or.inr (bI_1 h50), rfl, rfl, rfl, rfl, rfl⟩⟩⟩)
      · refine g_aload_n C dX8_take_44 rfl ?_
        refine g_iconst C dX8_take_45 ?_
        refine g_aaloadN (1) C rfl rfl hR0 (by omega) (by omega) k1 dX8_take_46 ?_
        refine g_callS C (c_X8_isLong _ e1 ⟨b1.n1, by omega⟩ b1.d) ml_RX8_236 sm_yX8_isLong in_RX8 co_yX8_isLong hd_X8_isLong rfl ⟨by omega, by omega⟩ rfl (Nat.le_of_ble_eq_true rfl) ⟨by omega, by omega⟩ dX8_take_47 (fun v47 w47 hp47 => ?_)
        obtain ⟨rfl, hw47⟩ := hp47
        subst w47
        rw [b1.abs]
        refine g_if_eq (tgt := 60) C dX8_take_50 (by decide) (bI_r _) (fun h50 => ?_) (fun h50 => ?_)
        · refine g_aload_n C dX8_take_60 rfl ?_
          refine g_iload_n C dX8_take_61 rfl ?_
          refine g_aload_n C dX8_take_62 rfl ?_
          refine g_get (ci := 10) C rfl inTX8 1 (by decide) fl_RX8_9 rfl hM8.o rfl dX8_take_63 ?_
          refine g_iload_n C dX8_take_66 rfl ?_
          refine g_ialoadN (V) C hM8.b (by omega) (by omega) dX8_take_67 ?_
          refine g_aload_n C dX8_take_68 rfl ?_
          refine g_iconst C dX8_take_69 ?_
          refine g_aaloadN (0) C rfl rfl hR0 (by omega) (by omega) k0 dX8_take_70 ?_
          refine g_aload_n C dX8_take_71 rfl ?_
          refine g_iconst C dX8_take_72 ?_
          refine g_aaloadN (1) C rfl rfl hR0 (by omega) (by omega) k1 dX8_take_73 ?_
          refine g_callV C (c_X8_become _ hM8 (i := I) (bz := ba V) (by omega) p2 hg.i (rtag_hi lo0) (rtag_hi lo1) (l0.short (bI_0 (Classical.not_not.mp h41))) (l1.short (bI_0 h50))) (ci := 10) rfl hM8.o rfl ml_RX8_232 im_yX8_become se_RX8_yX8_become in_RX8 co_yX8_become hd_X8_become rfl ⟨by omega, by omega⟩ rfl (Nat.le_of_ble_eq_true rfl) ⟨by omega, by omega⟩ dX8_take_74 (fun v74 w74 hp74 => ?_)
          obtain ⟨rfl, hM9, hK9⟩ := hp74
          exact g_ireturn C hQ dX8_take_77 (by omega) (by omega) (by
            first
            | exact ⟨_, _, t6, _, _, _, _, _, fun a ha => rtag_lo (by omega), rfl, hM9, hK7.trT hK9 hwf (fun a ha => rtag_lo (by omega)), Or.inr ⟨hin, by omega, r, hr, Or.inr ⟨fun q => q.elim (bI_0 (Classical.not_not.mp h41)) (bI_0 h50), rfl, rfl, rfl, rfl, rfl⟩⟩⟩
            | exact ⟨τ, A, t6, _, _, _, _, _, (fun _ _ => rfl), rfl, hM9, hK7.tr hK9, Or.inr ⟨hin, by omega, r, hr, Or.inl ⟨by first | exact Or.inl (bI_1 h41) | exact Or.inr (bI_1 h50), rfl, rfl, rfl, rfl, rfl⟩⟩⟩)
        · refine g_aload_n C dX8_take_53 rfl ?_
          refine g_callV C (c_X8_cannot _ hM7) (ci := 10) rfl hM7.o rfl ml_RX8_158 im_yX8_cannot se_RX8_yX8_cannot in_RX8 co_yX8_cannot hd_X8_cannot rfl ⟨by omega, by omega⟩ rfl (Nat.le_of_ble_eq_true rfl) ⟨by omega, by omega⟩ dX8_take_54 (fun v54 w54 hp54 => ?_)
          obtain ⟨rfl, hM9, hK9⟩ := hp54
          refine g_goto (tgt := 77) C dX8_take_57 (by decide) ?_
          exact g_ireturn C hQ dX8_take_77 (by omega) (by omega) (by
            first
            | exact ⟨_, _, t6, _, _, _, _, _, fun a ha => rtag_lo (by omega), rfl, hM9, hK7.trT hK9 hwf (fun a ha => rtag_lo (by omega)), Or.inr ⟨hin, by omega, r, hr, Or.inr ⟨fun q => q.elim (bI_0 (Classical.not_not.mp h41)) (bI_0 h50), rfl, rfl, rfl, rfl, rfl⟩⟩⟩
            | exact ⟨τ, A, t6, _, _, _, _, _, (fun _ _ => rfl), rfl, hM9, hK7.tr hK9, Or.inr ⟨hin, by omega, r, hr, Or.inl ⟨by first | exact Or.inl (bI_1 h41) | exact Or.inr (bI_1 h50), rfl, rfl, rfl, rfl, rfl⟩⟩⟩)
    · refine g_iconst C dX8_take_27 ?_
      exact g_ireturn C hQ dX8_take_28 (by omega) (by omega) ⟨τ, A, t6, _, _, _, _, _, (fun _ _ => rfl), rfl, hM6, hK6, Or.inl ⟨by omega, by omega, rfl, rfl, rfl, rfl, rfl⟩⟩
  refine g_if_ne (tgt := 15) C dX8_take_5 (by decide) (bI_r _) (fun h5 => ?_) (fun h5 => ?_)
  · refine g_iconst C dX8_take_15 ?_
    refine g_goto (tgt := 20) C dX8_take_16 (by decide) ?_
    exact J20 _ (by first | (have := bI_1 h5; exact Or.inr ⟨rfl, by omega⟩) | (have := bI_1 h12; exact Or.inr ⟨rfl, by omega⟩) | (have := bI_0 (Classical.not_not.mp h5); have := bI_0 h12; exact Or.inl ⟨rfl, by omega, by omega⟩))
  · refine g_iload_n C dX8_take_8 rfl ?_
    refine g_callS C (c_X8_isNo _ (v := into) h_into) ml_RX8_145 sm_yX8_isNo in_RX8 co_yX8_isNo hd_X8_isNo rfl ⟨by omega, by omega⟩ rfl (Nat.le_of_ble_eq_true rfl) ⟨by omega, by omega⟩ dX8_take_9 (fun v9 w9 hp9 => ?_)
    obtain ⟨rfl, hw9⟩ := hp9
    subst w9
    refine g_if_eq (tgt := 19) C dX8_take_12 (by decide) (bI_r _) (fun h12 => ?_) (fun h12 => ?_)
    · refine g_iconst C dX8_take_19 ?_
      exact J20 _ (by first | (have := bI_1 h5; exact Or.inr ⟨rfl, by omega⟩) | (have := bI_1 h12; exact Or.inr ⟨rfl, by omega⟩) | (have := bI_0 (Classical.not_not.mp h5); have := bI_0 h12; exact Or.inl ⟨rfl, by omega, by omega⟩))
    · refine g_iconst C dX8_take_15 ?_
      refine g_goto (tgt := 20) C dX8_take_16 (by decide) ?_
      exact J20 _ (by first | (have := bI_1 h5; exact Or.inr ⟨rfl, by omega⟩) | (have := bI_1 h12; exact Or.inr ⟨rfl, by omega⟩) | (have := bI_0 (Classical.not_not.mp h5); have := bI_0 h12; exact Or.inl ⟨rfl, by omega, by omega⟩))
set_option maxHeartbeats 4000000 in
set_option maxRecDepth 100000 in
theorem c_X8_compose (l : Launch) {E : GE} {w : Wd} {v o into : Int} (h_v : -2147483648 ≤ v ∧ v < 2147483648) (h_o : -2147483648 ≤ o ∧ o < 2147483648) (h_into : -2147483648 ≤ into ∧ into < 2147483648) {τ : Nat → Nat} {m : Nat} {A : MA} {th : Int} {ba st pb le ri : Nat → Int} {sp : Nat → Nat → Int} {ct : Nat → Int} (hM : MSx τ w m A th ba st pb le ri sp ct) (hP : HPp pb le ri) : Sp E l yX8_compose cX8_compose 5 (some .int) 4 (17) (142) [.ref m, iI v, iI o, iI into] w (fun r w' => ∃ (τ' : Nat → Nat) (A' : MA) (t : Int) (pb' le' ri' ct' : Nat → Int) (ans : Int), (∀ a, a < w.1 → τ' a = τ a) ∧ r = some (iI ans) ∧ MSx τ' w' m A' (t) (ba) (st) (pb') (le') (ri') (sp) (ct') ∧ Keep τ w w' ∧ (¬ ((0 ≤ v ∧ v ≤ 2) ∧ (0 ≤ o ∧ o ≤ 2) ∧ (0 ≤ into ∧ into ≤ 2)) ∧ t = 1 ∧ ans = 0 ∧ pb' = pb ∧ le' = le ∧ ri' = ri ∧ ct' = ct ∨ ((0 ≤ v ∧ v ≤ 2) ∧ (0 ≤ o ∧ o ≤ 2) ∧ (0 ≤ into ∧ into ≤ 2)) ∧ t = 0 ∧ pb v.toNat ≠ pb o.toNat ∧ ans = -9 ∧ pb' = pb ∧ le' = le ∧ ri' = ri ∧ ct' = iup ct 3 (ct 3 + 1) ∨ ((0 ≤ v ∧ v ≤ 2) ∧ (0 ≤ o ∧ o ≤ 2) ∧ (0 ≤ into ∧ into ≤ 2)) ∧ t = 0 ∧ pb v.toNat = pb o.toNat ∧ ((LGN ≤ aB (le v.toNat * le o.toNat + pb v.toNat * (ri v.toNat * ri o.toNat)) ∨ LGN ≤ aB (le v.toNat * ri o.toNat + ri v.toNat * le o.toNat)) ∧ ans = -9 ∧ pb' = pb ∧ le' = le ∧ ri' = ri ∧ ct' = iup ct 3 (ct 3 + 1) ∨ ¬ (LGN ≤ aB (le v.toNat * le o.toNat + pb v.toNat * (ri v.toNat * ri o.toNat)) ∨ LGN ≤ aB (le v.toNat * ri o.toNat + ri v.toNat * le o.toNat)) ∧ ans = bI (¬ (pb into.toNat = (pb v.toNat) ∧ le into.toNat = (le v.toNat * le o.toNat + pb v.toNat * (ri v.toNat * ri o.toNat)) ∧ ri into.toNat = (le v.toNat * ri o.toNat + ri v.toNat * le o.toNat))) ∧ pb' = iup pb into.toNat (pb v.toNat) ∧ le' = iup le into.toNat (le v.toNat * le o.toNat + pb v.toNat * (ri v.toNat * ri o.toNat)) ∧ ri' = iup ri into.toNat (le v.toNat * ri o.toNat + ri v.toNat * le o.toNat) ∧ ct' = iup ct 1 (ct 1 + 1)))) := by
  refine sp_intro [some (.ref m), some (iI v), some (iI o), some (iI into), none] rfl (Nat.le_of_ble_eq_true rfl) pn_X8 ?_
  intro X C hRm hl hnm hQ
  obtain ⟨hRf, hRl, hRc, hRs⟩ := hRm
  refine g_wf (fun hwf => ?_)
  refine g_aload_n C dX8_compose_0 rfl ?_
  refine g_iload_n C dX8_compose_1 rfl ?_
  refine g_callS C (c_X8_isNo _ (v := v) h_v) ml_RX8_145 sm_yX8_isNo in_RX8 co_yX8_isNo hd_X8_isNo rfl ⟨by omega, by omega⟩ rfl (Nat.le_of_ble_eq_true rfl) ⟨by omega, by omega⟩ dX8_compose_2 (fun v2 w2 hp2 => ?_)
  obtain ⟨rfl, hw2⟩ := hp2
  subst w2
  have J27 : ∀ y : Int, (y = 0 ∧ ((0 ≤ v ∧ v ≤ 2) ∧ (0 ≤ o ∧ o ≤ 2) ∧ (0 ≤ into ∧ into ≤ 2)) ∨ y = 1 ∧ ¬ ((0 ≤ v ∧ v ≤ 2) ∧ (0 ≤ o ∧ o ≤ 2) ∧ (0 ≤ into ∧ into ≤ 2))) → G E X 5 27 [some (.ref m), some (iI v), some (iI o), some (iI into), none] [iI y, .ref m] w 0 0 := by
    intro y hy
    refine g_iconst C dX8_compose_27 ?_
    refine g_callV C (c_X8_start _ hM (y := y) (wh := 1) (by omega) (by omega)) (ci := 10) rfl hM.o rfl ml_RX8_149 im_yX8_start se_RX8_yX8_start in_RX8 co_yX8_start hd_X8_start rfl ⟨by omega, by omega⟩ rfl (Nat.le_of_ble_eq_true rfl) ⟨by omega, by omega⟩ dX8_compose_28 (fun v28 w28 hp28 => ?_)
    obtain ⟨t6, rfl, ht6, hM6, hK6⟩ := hp28
    have hy6 : (y) = 0 ∨ (y) = 1 := (by omega)
    refine g_if_eq (tgt := 36) C dX8_compose_31 (by decide) (by omega) (fun h31 => ?_) (fun h31 => ?_)
    · have hin : ((0 ≤ v ∧ v ≤ 2) ∧ (0 ≤ o ∧ o ≤ 2) ∧ (0 ≤ into ∧ into ≤ 2)) := by omega
      obtain ⟨V, rfl⟩ := Int.eq_ofNat_of_zero_le hin.1.1
      obtain ⟨O, rfl⟩ := Int.eq_ofNat_of_zero_le hin.2.1.1
      obtain ⟨I, rfl⟩ := Int.eq_ofNat_of_zero_le hin.2.2.1
      have g1 := (hP V (by omega)).1
      have g2 := (hP O (by omega)).1
      have g11 := g1.1
      have g12 := g1.2.1
      refine g_wf (fun hwf6 => ?_)
      have p2 := (hP I (by omega)).1.i
      have hwk6 := hK6.1
      obtain ⟨q1, hq1, tq1, r1⟩ := hM6.L (i := V) (by omega)
      obtain ⟨q2, hq2, tq2, r2⟩ := hM6.R (i := V) (by omega)
      obtain ⟨q3, hq3, tq3, r3⟩ := hM6.L (i := O) (by omega)
      obtain ⟨q4, hq4, tq4, r4⟩ := hM6.R (i := O) (by omega)
      refine g_aload_n C dX8_compose_36 rfl ?_
      refine g_get (ci := 10) C rfl inTX8 3 (by decide) fl_RX8_16 rfl hM6.o rfl dX8_compose_37 ?_
      refine g_iload_n C dX8_compose_40 rfl ?_
      refine g_ialoadN (V) C hM6.p (by omega) (by omega) dX8_compose_41 ?_
      refine g_aload_n C dX8_compose_42 rfl ?_
      refine g_get (ci := 10) C rfl inTX8 3 (by decide) fl_RX8_16 rfl hM6.o rfl dX8_compose_43 ?_
      refine g_iload_n C dX8_compose_46 rfl ?_
      refine g_ialoadN (O) C hM6.p (by omega) (by omega) dX8_compose_47 ?_
      refine g_icmp_eq (tgt := 56) C dX8_compose_48 (by decide) g1.i g2.i (fun h48 => ?_) (fun h48 => ?_)
      · have h48k := h48
        refine g_aload_n C dX8_compose_56 rfl ?_
        refine g_get (ci := 10) C rfl inTX8 3 (by decide) fl_RX8_16 rfl hM6.o rfl dX8_compose_57 ?_
        refine g_iload_n C dX8_compose_60 rfl ?_
        refine g_ialoadN (V) C hM6.p (by omega) (by omega) dX8_compose_61 ?_
        refine g_aload_n C dX8_compose_62 rfl ?_
        refine g_get (ci := 10) C rfl inTX8 4 (by decide) fl_RX8_24 rfl hM6.o rfl dX8_compose_63 ?_
        refine g_iload_n C dX8_compose_66 rfl ?_
        refine g_aaloadN (V) C rfl rfl hM6.l (by omega) (by omega) hq1 dX8_compose_67 ?_
        refine g_aload_n C dX8_compose_68 rfl ?_
        refine g_get (ci := 10) C rfl inTX8 5 (by decide) fl_RX8_28 rfl hM6.o rfl dX8_compose_69 ?_
        refine g_iload_n C dX8_compose_72 rfl ?_
        refine g_aaloadN (V) C rfl rfl hM6.r (by omega) (by omega) hq2 dX8_compose_73 ?_
        refine g_aload_n C dX8_compose_74 rfl ?_
        refine g_get (ci := 10) C rfl inTX8 4 (by decide) fl_RX8_24 rfl hM6.o rfl dX8_compose_75 ?_
        refine g_iload_n C dX8_compose_78 rfl ?_
        refine g_aaloadN (O) C rfl rfl hM6.l (by omega) (by omega) hq3 dX8_compose_79 ?_
        refine g_aload_n C dX8_compose_80 rfl ?_
        refine g_get (ci := 10) C rfl inTX8 5 (by decide) fl_RX8_28 rfl hM6.o rfl dX8_compose_81 ?_
        refine g_iload_n C dX8_compose_84 rfl ?_
        refine g_aaloadN (O) C rfl rfl hM6.r (by omega) (by omega) hq4 dX8_compose_85 ?_
        refine g_callS C (c_X8_product _ (c1 := 4) (by omega) r1 r2 r3 r4 (by omega)) ml_RX8_239 sm_yX8_product in_RX8 co_yX8_product hd_X8_product rfl ⟨by omega, by omega⟩ rfl (Nat.le_of_ble_eq_true rfl) ⟨by omega, by omega⟩ dX8_compose_86 (fun v86 w86 hp86 => ?_)
        obtain ⟨q, R, a0, a1, rfl, hR0, k0, k1, l0, l1, lo0, lo1, x1⟩ := hp86
        obtain ⟨n0, f0, e0, b0, d0⟩ := id l0
        obtain ⟨n1, f1, e1, b1, d1⟩ := id l1
        have hM7 := hM6.ex x1
        have hM8 := (hM6.tag (τ' := rtag τ w28.1) hwf6 (fun a ha => rtag_lo ha)).ex x1
        have hK7 := hK6.tr (Keep.ex x1)
        refine g_astore C dX8_compose_89 (by decide) rfl ?_
        refine g_aload C dX8_compose_91 rfl ?_
        refine g_iconst C dX8_compose_93 ?_
        refine g_aaloadN (0) C rfl rfl hR0 (by omega) (by omega) k0 dX8_compose_94 ?_
        refine g_callS C (c_X8_isLong _ e0 ⟨b0.n1, by omega⟩ b0.d) ml_RX8_236 sm_yX8_isLong in_RX8 co_yX8_isLong hd_X8_isLong rfl ⟨by omega, by omega⟩ rfl (Nat.le_of_ble_eq_true rfl) ⟨by omega, by omega⟩ dX8_compose_95 (fun v95 w95 hp95 => ?_)
        obtain ⟨rfl, hw95⟩ := hp95
        subst w95
        rw [b0.abs]
        refine g_if_ne (tgt := 111) C dX8_compose_98 (by decide) (bI_r _) (fun h98 => ?_) (fun h98 => ?_)
        · refine g_aload_n C dX8_compose_111 rfl ?_
          refine g_callV C (c_X8_cannot _ hM7) (ci := 10) rfl hM7.o rfl ml_RX8_158 im_yX8_cannot se_RX8_yX8_cannot in_RX8 co_yX8_cannot hd_X8_cannot rfl ⟨by omega, by omega⟩ rfl (Nat.le_of_ble_eq_true rfl) ⟨by omega, by omega⟩ dX8_compose_112 (fun v112 w112 hp112 => ?_)
          obtain ⟨rfl, hM9, hK9⟩ := hp112
          refine g_goto (tgt := 137) C dX8_compose_115 (by decide) ?_
          exact g_ireturn C hQ dX8_compose_137 (by omega) (by omega) (by
            have h48' : pb V = pb O := by first | exact h48 | exact Classical.not_not.mp h48
            first
            | exact ⟨_, _, t6, _, _, _, _, _, fun a ha => rtag_lo (by omega), rfl, hM9, hK7.trT hK9 hwf (fun a ha => rtag_lo (by omega)), Or.inr (Or.inr ⟨hin, by omega, h48', Or.inr ⟨fun q => q.elim (bI_0 (Classical.not_not.mp h98)) (bI_0 h108), rfl, rfl, rfl, rfl, rfl⟩⟩)⟩
            | exact ⟨τ, A, t6, _, _, _, _, _, (fun _ _ => rfl), rfl, hM9, hK7.tr hK9, Or.inr (Or.inr ⟨hin, by omega, h48', Or.inl ⟨by first | exact Or.inl (bI_1 h98) | exact Or.inr (bI_1 h108), rfl, rfl, rfl, rfl, rfl⟩⟩)⟩)
        · refine g_aload C dX8_compose_101 rfl ?_
          refine g_iconst C dX8_compose_103 ?_
          refine g_aaloadN (1) C rfl rfl hR0 (by omega) (by omega) k1 dX8_compose_104 ?_
          refine g_callS C (c_X8_isLong _ e1 ⟨b1.n1, by omega⟩ b1.d) ml_RX8_236 sm_yX8_isLong in_RX8 co_yX8_isLong hd_X8_isLong rfl ⟨by omega, by omega⟩ rfl (Nat.le_of_ble_eq_true rfl) ⟨by omega, by omega⟩ dX8_compose_105 (fun v105 w105 hp105 => ?_)
          obtain ⟨rfl, hw105⟩ := hp105
          subst w105
          rw [b1.abs]
          refine g_if_eq (tgt := 118) C dX8_compose_108 (by decide) (bI_r _) (fun h108 => ?_) (fun h108 => ?_)
          · refine g_aload_n C dX8_compose_118 rfl ?_
            refine g_iload_n C dX8_compose_119 rfl ?_
            refine g_aload_n C dX8_compose_120 rfl ?_
            refine g_get (ci := 10) C rfl inTX8 3 (by decide) fl_RX8_16 rfl hM8.o rfl dX8_compose_121 ?_
            refine g_iload_n C dX8_compose_124 rfl ?_
            refine g_ialoadN (V) C hM8.p (by omega) (by omega) dX8_compose_125 ?_
            refine g_aload C dX8_compose_126 rfl ?_
            refine g_iconst C dX8_compose_128 ?_
            refine g_aaloadN (0) C rfl rfl hR0 (by omega) (by omega) k0 dX8_compose_129 ?_
            refine g_aload C dX8_compose_130 rfl ?_
            refine g_iconst C dX8_compose_132 ?_
            refine g_aaloadN (1) C rfl rfl hR0 (by omega) (by omega) k1 dX8_compose_133 ?_
            refine g_callV C (c_X8_become _ hM8 (i := I) (bz := pb V) (by omega) p2 g1.i (rtag_hi lo0) (rtag_hi lo1) (l0.short (bI_0 (Classical.not_not.mp h98))) (l1.short (bI_0 h108))) (ci := 10) rfl hM8.o rfl ml_RX8_232 im_yX8_become se_RX8_yX8_become in_RX8 co_yX8_become hd_X8_become rfl ⟨by omega, by omega⟩ rfl (Nat.le_of_ble_eq_true rfl) ⟨by omega, by omega⟩ dX8_compose_134 (fun v134 w134 hp134 => ?_)
            obtain ⟨rfl, hM9, hK9⟩ := hp134
            exact g_ireturn C hQ dX8_compose_137 (by omega) (by omega) (by
              have h48' : pb V = pb O := by first | exact h48 | exact Classical.not_not.mp h48
              first
              | exact ⟨_, _, t6, _, _, _, _, _, fun a ha => rtag_lo (by omega), rfl, hM9, hK7.trT hK9 hwf (fun a ha => rtag_lo (by omega)), Or.inr (Or.inr ⟨hin, by omega, h48', Or.inr ⟨fun q => q.elim (bI_0 (Classical.not_not.mp h98)) (bI_0 h108), rfl, rfl, rfl, rfl, rfl⟩⟩)⟩
              | exact ⟨τ, A, t6, _, _, _, _, _, (fun _ _ => rfl), rfl, hM9, hK7.tr hK9, Or.inr (Or.inr ⟨hin, by omega, h48', Or.inl ⟨by first | exact Or.inl (bI_1 h98) | exact Or.inr (bI_1 h108), rfl, rfl, rfl, rfl, rfl⟩⟩)⟩)
          · refine g_aload_n C dX8_compose_111 rfl ?_
            refine g_callV C (c_X8_cannot _ hM7) (ci := 10) rfl hM7.o rfl ml_RX8_158 im_yX8_cannot se_RX8_yX8_cannot in_RX8 co_yX8_cannot hd_X8_cannot rfl ⟨by omega, by omega⟩ rfl (Nat.le_of_ble_eq_true rfl) ⟨by omega, by omega⟩ dX8_compose_112 (fun v112 w112 hp112 => ?_)
            obtain ⟨rfl, hM9, hK9⟩ := hp112
            refine g_goto (tgt := 137) C dX8_compose_115 (by decide) ?_
            exact g_ireturn C hQ dX8_compose_137 (by omega) (by omega) (by
              have h48' : pb V = pb O := by first | exact h48 | exact Classical.not_not.mp h48
              first
              | exact ⟨_, _, t6, _, _, _, _, _, fun a ha => rtag_lo (by omega), rfl, hM9, hK7.trT hK9 hwf (fun a ha => rtag_lo (by omega)), Or.inr (Or.inr ⟨hin, by omega, h48', Or.inr ⟨fun q => q.elim (bI_0 (Classical.not_not.mp h98)) (bI_0 h108), rfl, rfl, rfl, rfl, rfl⟩⟩)⟩
              | exact ⟨τ, A, t6, _, _, _, _, _, (fun _ _ => rfl), rfl, hM9, hK7.tr hK9, Or.inr (Or.inr ⟨hin, by omega, h48', Or.inl ⟨by first | exact Or.inl (bI_1 h98) | exact Or.inr (bI_1 h108), rfl, rfl, rfl, rfl, rfl⟩⟩)⟩)
      · refine g_aload_n C dX8_compose_51 rfl ?_
        refine g_callV C (c_X8_cannot _ hM6) (ci := 10) rfl hM6.o rfl ml_RX8_158 im_yX8_cannot se_RX8_yX8_cannot in_RX8 co_yX8_cannot hd_X8_cannot rfl ⟨by omega, by omega⟩ rfl (Nat.le_of_ble_eq_true rfl) ⟨by omega, by omega⟩ dX8_compose_52 (fun v52 w52 hp52 => ?_)
        obtain ⟨rfl, hM9, hK9⟩ := hp52
        exact g_ireturn C hQ dX8_compose_55 (by omega) (by omega) ⟨τ, A, t6, _, _, _, _, _, (fun _ _ => rfl), rfl, hM9, hK6.tr hK9, Or.inr (Or.inl ⟨hin, by omega, by first | exact h48 | (intro q; exact h48 q), rfl, rfl, rfl, rfl, rfl⟩)⟩
    · refine g_iconst C dX8_compose_34 ?_
      exact g_ireturn C hQ dX8_compose_35 (by omega) (by omega) ⟨τ, A, t6, _, _, _, _, _, (fun _ _ => rfl), rfl, hM6, hK6, Or.inl ⟨by omega, by omega, rfl, rfl, rfl, rfl, rfl⟩⟩
  refine g_if_ne (tgt := 22) C dX8_compose_5 (by decide) (bI_r _) (fun h5 => ?_) (fun h5 => ?_)
  · refine g_iconst C dX8_compose_22 ?_
    refine g_goto (tgt := 27) C dX8_compose_23 (by decide) ?_
    exact J27 _ (by
      first
      | (have := bI_0 (Classical.not_not.mp h5); have := bI_0 (Classical.not_not.mp h12); have := bI_0 h19; exact Or.inl ⟨rfl, by omega, by omega, by omega⟩)
      | (have := bI_1 h5; exact Or.inr ⟨rfl, by omega⟩)
      | (have := bI_1 h12; exact Or.inr ⟨rfl, by omega⟩)
      | (have := bI_1 h19; exact Or.inr ⟨rfl, by omega⟩))
  · refine g_iload_n C dX8_compose_8 rfl ?_
    refine g_callS C (c_X8_isNo _ (v := o) h_o) ml_RX8_145 sm_yX8_isNo in_RX8 co_yX8_isNo hd_X8_isNo rfl ⟨by omega, by omega⟩ rfl (Nat.le_of_ble_eq_true rfl) ⟨by omega, by omega⟩ dX8_compose_9 (fun v9 w9 hp9 => ?_)
    obtain ⟨rfl, hw9⟩ := hp9
    subst w9
    refine g_if_ne (tgt := 22) C dX8_compose_12 (by decide) (bI_r _) (fun h12 => ?_) (fun h12 => ?_)
    · refine g_iconst C dX8_compose_22 ?_
      refine g_goto (tgt := 27) C dX8_compose_23 (by decide) ?_
      exact J27 _ (by
        first
        | (have := bI_0 (Classical.not_not.mp h5); have := bI_0 (Classical.not_not.mp h12); have := bI_0 h19; exact Or.inl ⟨rfl, by omega, by omega, by omega⟩)
        | (have := bI_1 h5; exact Or.inr ⟨rfl, by omega⟩)
        | (have := bI_1 h12; exact Or.inr ⟨rfl, by omega⟩)
        | (have := bI_1 h19; exact Or.inr ⟨rfl, by omega⟩))
    · refine g_iload_n C dX8_compose_15 rfl ?_
      refine g_callS C (c_X8_isNo _ (v := into) h_into) ml_RX8_145 sm_yX8_isNo in_RX8 co_yX8_isNo hd_X8_isNo rfl ⟨by omega, by omega⟩ rfl (Nat.le_of_ble_eq_true rfl) ⟨by omega, by omega⟩ dX8_compose_16 (fun v16 w16 hp16 => ?_)
      obtain ⟨rfl, hw16⟩ := hp16
      subst w16
      refine g_if_eq (tgt := 26) C dX8_compose_19 (by decide) (bI_r _) (fun h19 => ?_) (fun h19 => ?_)
      · refine g_iconst C dX8_compose_26 ?_
        exact J27 _ (by
          first
          | (have := bI_0 (Classical.not_not.mp h5); have := bI_0 (Classical.not_not.mp h12); have := bI_0 h19; exact Or.inl ⟨rfl, by omega, by omega, by omega⟩)
          | (have := bI_1 h5; exact Or.inr ⟨rfl, by omega⟩)
          | (have := bI_1 h12; exact Or.inr ⟨rfl, by omega⟩)
          | (have := bI_1 h19; exact Or.inr ⟨rfl, by omega⟩))
      · refine g_iconst C dX8_compose_22 ?_
        refine g_goto (tgt := 27) C dX8_compose_23 (by decide) ?_
        exact J27 _ (by
          first
          | (have := bI_0 (Classical.not_not.mp h5); have := bI_0 (Classical.not_not.mp h12); have := bI_0 h19; exact Or.inl ⟨rfl, by omega, by omega, by omega⟩)
          | (have := bI_1 h5; exact Or.inr ⟨rfl, by omega⟩)
          | (have := bI_1 h12; exact Or.inr ⟨rfl, by omega⟩)
          | (have := bI_1 h19; exact Or.inr ⟨rfl, by omega⟩))
