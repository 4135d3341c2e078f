theorem aB_pos {d : Int} (h : d ≠ 0) : 0 < aB d := by unfold aB; split <;> omega
theorem aB_mul {y d : Int} : aB (y * d) = aB y * aB d := by
  unfold aB
  rcases Int.lt_trichotomy y 0 with a | a | a <;> rcases Int.lt_trichotomy d 0 with c | c | c
  · rw [if_neg (by have := Int.mul_pos_of_neg_of_neg a c; omega), if_pos a, if_pos c, Int.neg_mul_neg]
  · rw [c, Int.mul_zero]; simp
  · rw [if_pos (Int.mul_neg_of_neg_of_pos a c), if_pos a, if_neg (by omega), Int.neg_mul]
  · rw [a]; simp
  · rw [a]; simp
  · rw [a]; simp
  · rw [if_pos (Int.mul_neg_of_pos_of_neg a c), if_neg (by omega), if_pos c, Int.mul_neg]
  · rw [c, Int.mul_zero]; simp
  · rw [if_neg (by have := Int.mul_pos a c; omega), if_neg (by omega), if_neg (by omega)]
set_option maxHeartbeats 4000000 in
set_option maxRecDepth 100000 in
theorem c_X8_parted (l : Launch) {E : GE} {w : Wd} {a : Nat} {z d : Int} (ra : RowAt w a z 4) (hd0 : d ≠ 0) (hd : -99 ≤ d ∧ d ≤ 99) : Sp E l yX8_parted cX8_parted 3 (some (.array .int)) 1 (2) (8) [.ref a, iI d] w (fun r w' => (r = some .null ∧ aB z % aB d ≠ 0 ∧ Ex w w') ∨ ∃ (q : Nat) (y : Int), r = some (.ref q) ∧ RowAt w' q y 4 ∧ y * d = z ∧ aB z % aB d = 0 ∧ w.1 ≤ q ∧ Ex w w') := by
  refine sp_intro [some (.ref a), some (iI d), none] rfl (Nat.le_of_ble_eq_true rfl) pn_X8 ?_
  intro X C hRm hl hnm hQ
  obtain ⟨hRf, hRl, hRc, hRs⟩ := hRm
  refine g_wf (fun hwf => ?_)
  obtain ⟨n, f, e0, b0, d0⟩ := id ra
  have h1 := b0.n1
  have sg := b0.s
  have hm := b0.m
  have hab := b0.abs
  have hdp := aB_pos hd0
  have hda : aB d ≤ 99 := by unfold aB; split <;> omega
  refine g_aload_n C dX8_parted_0 rfl ?_
  refine g_cloneI C e0 ml_RX8_59 (by omega) (by omega) (Nat.le_of_ble_eq_true rfl) (by omega) dX8_parted_1 ?_
  refine g_castI C wpush_s kl_RX8_19 dX8_parted_4 ?_
  refine g_astore_n C dX8_parted_7 (by decide) rfl ?_
  refine g_aload_n C dX8_parted_8 rfl ?_
  refine g_iload_n C dX8_parted_9 rfl ?_
  refine g_abs C ml_RX8_196 (by omega) (by omega) (by omega) (Nat.le_of_ble_eq_true rfl) (by omega) dX8_parted_10 ?_
  rw [show (if 0 ≤ d then d else 0 - d) = aB d by unfold aB; split <;> split <;> omega]
  refine g_callS C (c_X8_divide _ (d := aB d) wpush_s ⟨h1, by omega⟩ b0.d ⟨hdp, by omega⟩) ml_RX8_95 sm_yX8_divide in_RX8 co_yX8_divide hd_X8_divide rfl ⟨by omega, by omega⟩ rfl (Nat.le_of_ble_eq_true rfl) ⟨by omega, by omega⟩ dX8_parted_13 (fun v13 w13 hp13 => ?_)
  obtain ⟨x, g, rfl, rfl, hdg, hg0, hx0, hx1, hxe⟩ := hp13
  rw [wset_push]
  rw [hab] at hxe
  have hem : aB z % aB d = x := by
    rw [← hxe, Int.add_comm, Int.mul_comm, Int.add_mul_emod_self_left]
    exact Int.emod_eq_of_lt hx0 hx1
  refine g_if_le (tgt := 23) C dX8_parted_16 (by decide) (by omega) (fun h16 => ?_) (fun h16 => ?_)
  · have hx00 : x = 0 := by omega
    have J37 : ∀ s : Int, (d < 0 ∧ s = - f 0 ∨ 0 < d ∧ s = f 0) → G E X 3 37 [some (.ref a), some (iI d), some (.ref w.1)] [iI s] (wpush w (true, eI n g)) (0 + 1) (0 + n) := by
      intro s hs
      refine g_aload_n C dX8_parted_37 rfl ?_
      refine g_callS C (c_X8_cut _ (c := 4) (s := s) (f := g) wpush_s h1 (by omega) (by omega) hdg (by rcases sg with q | q | q; (rcases hs with r | r; exact Or.inl (by omega); exact Or.inr (Or.inl (by omega))); (refine Or.inr (Or.inr ⟨by omega, ?_⟩); rw [q.2.2]; rfl); (rcases hs with r | r; exact Or.inr (Or.inl (by omega)); exact Or.inl (by omega)))) ml_RX8_55 sm_yX8_cut in_RX8 co_yX8_cut hd_X8_cut rfl ⟨by omega, by omega⟩ rfl (Nat.le_of_ble_eq_true rfl) ⟨by omega, by omega⟩ dX8_parted_38 (fun v38 w38 hp38 => ?_)
      obtain ⟨m9, h9, rfl, rfl, hb9, hm9⟩ := hp38
      exact g_areturn C (Or.inr ⟨_, rfl⟩) hQ (by first | exact Or.inl rfl | exact Or.inr ⟨_, rfl⟩) dX8_parted_41 (by omega) (by omega) (by
        first
        | exact Or.inl ⟨rfl, by omega, Ex.push hwf _⟩
        | exact Or.inr ⟨_, s * mg g n, rfl, RowAt.of wpush_s hb9 (by omega), by
            rw [hx00, Int.add_zero] at hxe
            rw [hm, hab, ← hxe]
            unfold aB
            rcases hs with r | r
            · rw [if_pos r.1, r.2]; grind
            · rw [if_neg (by omega), r.2]; grind, by omega, by show w.1 ≤ w.1 + 1; omega, (Ex.push hwf _).tr (Ex.push (hwf.push _) _)⟩)
    refine g_iload_n C dX8_parted_23 rfl ?_
    refine g_if_ge (tgt := 34) C dX8_parted_24 (by decide) (by omega) (fun h24 => ?_) (fun h24 => ?_)
    · refine g_aload_n C dX8_parted_34 rfl ?_
      refine g_iconst C dX8_parted_35 ?_
      refine g_ialoadN (0) C (by rw [wpush_n (Nat.ne_of_lt (hwf a _ e0))]; exact e0) (by omega) (by omega) dX8_parted_36 ?_
      exact J37 _ (by omega)
    · refine g_aload_n C dX8_parted_27 rfl ?_
      refine g_iconst C dX8_parted_28 ?_
      refine g_ialoadN (0) C (by rw [wpush_n (Nat.ne_of_lt (hwf a _ e0))]; exact e0) (by omega) (by omega) dX8_parted_29 ?_
      refine g_ineg C dX8_parted_30 ?_
      refine g_goto (tgt := 37) C dX8_parted_31 (by decide) ?_
      exact J37 _ (by omega)
  · refine g_null C dX8_parted_19 ?_
    refine g_goto (tgt := 41) C dX8_parted_20 (by decide) ?_
    exact g_areturn C (Or.inr ⟨_, rfl⟩) hQ (by first | exact Or.inl rfl | exact Or.inr ⟨_, rfl⟩) dX8_parted_41 (by omega) (by omega) (by
      first
      | exact Or.inl ⟨rfl, by omega, Ex.push hwf _⟩
      | exact Or.inr ⟨_, s * mg g n, rfl, RowAt.of wpush_s hb9 (by omega), by
          rw [hx00, Int.add_zero] at hxe
          rw [hm, hab, ← hxe]
          unfold aB
          rcases hs with r | r
          · rw [if_pos r.1, r.2]; grind
          · rw [if_neg (by omega), r.2]; grind, by omega, by show w.1 ≤ w.1 + 1; omega, (Ex.push hwf _).tr (Ex.push (hwf.push _) _)⟩)
